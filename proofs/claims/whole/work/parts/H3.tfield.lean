/-! The parsers: a table's field -/

section Rq
variable {T : Nat → Nat} {n c S t k a j : Nat} {g h u p : XH}
theorem exY {x : Int32} (A : ST T n c g h t S k) (q : hi g 8 k = x) (hx : ¬ (x = 0 ∨ x = 1)) : ∃ u, f_p_expect t x g = some (1, u) ∧ ST T n c u (hsi h 1262 13 (nI (k + 1))) t S (k + 1) ∧ FRM (tP t) g u := by
  obtain ⟨u, u1, u2, u3⟩ := e_p_adv A (by rw [q]; exact hx)
  refine ⟨u, ?_, u2, u3⟩
  unfold f_p_expect
  exact o_pos A.1.tk (o_pos (by rw [A.2.2.2.2.1]; exact q) (o_bind u1 rfl))
theorem exN {x : Int32} (A : ST T n c g h t S k) (q : ¬ hi g 8 k = x) (r : f_p_fail t 2 g = some (0, u)) : f_p_expect t x g = some (0, u) := by
  unfold f_p_expect
  exact o_pos A.1.tk (o_neg (by rw [A.2.2.2.2.1]; exact q) (o_bind r (o_pos (Or.inl rfl) rfl)))
theorem required2 (A : ST T n c g h t S k) (ak : a < hz g ∧ hk g a = 3) (at' : S ≤ a ∧ a < S + 615) (hj' : j < 256) (sc : (hi g a 3 = 0 ∧ hi h 1286 j = 0) ∨ (¬ hi g a 3 = 0 ∧ ¬ hi h 1286 j = 0)) (e7 : hi g a 7 = 0) : (∃ u p k', f_p_readRequired t a g = some (1, u) ∧ f_m_needed (nI j) h = some ((), p) ∧ ST T n c u p t S k' ∧ (∃ ne, ne ≤ 1 ∧ hi u a 7 = nI ne ∧ hi p 1290 j = nI ne) ∧ FRX (rqP t a) sJ nW g u ∧ FRX (rqM j) sJ nW h p) ∨ (∃ u p, f_p_readRequired t a g = some (0, u) ∧ f_m_needed (nI j) h = some ((), p) ∧ FLT u p t ∧ FRX (rqP t a) sJ nW g u ∧ FRX (rqM j) sJ nW h p) := by
  have A' := A
  obtain ⟨P, K, kc', a5, a6, m13', m14'⟩ := A'
  have t17 := P.2.1
  have S1 := P.2.2.2.1
  have jc : (nI j).toNatClampNeg = j := nI_clamp (by omega)
  have j256 : (0 : Int32) ≤ nI j ∧ nI j < nI 256 := ⟨nI_pos' (by omega), by (first | (simp (maxSteps := 4000000) (disch := omega) only [n_0, n_1, n_2, n_3, n_4, n_5, n_6, n_7, n_8, n_9, n_10, n_11, n_12, n_13, n_14, n_15, n_16, n_18, n_20, n_24, n_31, n_32, n_34, n_40, n_41, n_44, n_45, n_47, n_48, n_57, n_58, n_59, n_61, n_63, n_64, n_65, n_68, n_90, n_91, n_93, n_95, n_97, n_100, n_122, n_123, n_125, n_128, n_144, n_200, n_255, n_256, n_300, n_400, n_600, n_1536, n_3980, n_4000, n_4001, n_4300, n_65536, l_0, l_1, l_2, l_3, l_4, l_10, l_48, l_63, l_255, l_300, nI_ltI, nI_leI, nI_eq, nI_clamp, nI_add, pk_sub, pk_mul, nI_ne1, ne1_nI, nI_pge, nI_nlt0, nI_l, lN_i, lN_add, lN_mul, lN_sub, pk_lLT, pk_lLE, pk_lEQ, lg_lt, lg_ge, lg_eq0, lg_le, lg_gt, lg_ltn, lg_gen, lg_eq0n, lg_len, lg_gtn, Nat.zero_le, Nat.not_lt_zero, not_false_eq_true, not_true_eq_false, true_and, and_true]; done) | (simp (maxSteps := 4000000) (disch := omega) only [n_0, n_1, n_2, n_3, n_4, n_5, n_6, n_7, n_8, n_9, n_10, n_11, n_12, n_13, n_14, n_15, n_16, n_18, n_20, n_24, n_31, n_32, n_34, n_40, n_41, n_44, n_45, n_47, n_48, n_57, n_58, n_59, n_61, n_63, n_64, n_65, n_68, n_90, n_91, n_93, n_95, n_97, n_100, n_122, n_123, n_125, n_128, n_144, n_200, n_255, n_256, n_300, n_400, n_600, n_1536, n_3980, n_4000, n_4001, n_4300, n_65536, l_0, l_1, l_2, l_3, l_4, l_10, l_48, l_63, l_255, l_300, nI_ltI, nI_leI, nI_eq, nI_clamp, nI_add, pk_sub, pk_mul, nI_ne1, ne1_nI, nI_pge, nI_nlt0, nI_l, lN_i, lN_add, lN_mul, lN_sub, pk_lLT, pk_lLE, pk_lEQ, lg_lt, lg_ge, lg_eq0, lg_le, lg_gt, lg_ltn, lg_gen, lg_eq0n, lg_len, lg_gtn, Nat.zero_le, Nat.not_lt_zero, not_false_eq_true, not_true_eq_false, true_and, and_true]; omega) | omega)⟩
  obtain ⟨h0, eh0⟩ : ∃ h0, h0 = hsi h 1290 j 0 := ⟨_, rfl⟩
  have G0 : FRX (rqM j) sJ nW h h0 := by rw [eh0]; exact FRX.refl.si (Or.inr ⟨rfl, rfl⟩)
  have Gx : FRX xM nJ nW h h0 := by rw [eh0]; exact FRX.refl.si (by simp [xM])
  have ST0 := A.con (FRX.refl (P := xP S t) (J := xJ S t) (W := wW S t)) Gx
  have i86 : hi h0 1286 j = hi h 1286 j := by rw [eh0, hi_hsi_ne (by decide)]
  unfold f_p_readRequired f_m_needed
  rw [jc, ← eh0]
  have fr1 : ∀ {u : XH}, FRM (tF t) g u → FRX (rqP t a) sJ nW g u := fun s4 => s4.x (fun a' k z => by unfold tF at z; unfold rqP; omega) (fun k => rfl)
  rcases e_m_isSign (x := 40) ST0 (by decide) with ⟨q1, q2⟩ | ⟨q1, q2⟩
  · have kq : hi g t 6 = 40 := by rw [a6]; exact q1
    rcases sc with ⟨s1, s2⟩ | ⟨s1, s2⟩
    · obtain ⟨u, p, r1, r2, r3, r4, r5, r6⟩ := ST0.fl (x := 7) (by rw [q1]; decide) (by decide)
      exact Or.inr ⟨u, p, o_pos P.tk (o_pos kq (o_pos ak (o_neg (not_not_intro s1) (o_bind r1 (o_pos (Or.inl rfl) rfl))))), o_pos m14' (o_pos j256 (o_bind q2 (o_pos one0 (o_pos j256 (o_neg (not_not_intro (by rw [i86]; exact s2)) (o_bind r2 rfl)))))), r3, fr1 r4, G0.trans (r5.x (fun a' k z => by unfold m14 at z; unfold rqM; omega) (fun k => rfl))⟩
    · obtain ⟨u, u1, u2, u3⟩ := e_p_adv ST0 (by rw [q1]; decide)
      have tk1 := e_m_take ST0.2.2.2.2.2.2 ST0.2.2.2.2.2.1
      obtain ⟨p1, ep1⟩ : ∃ p1, p1 = hsi h0 1262 13 (nI (k + 1)) := ⟨_, rfl⟩
      rw [← ep1] at u2 tk1
      have G1 : FRX (rqM j) sJ nW h p1 := by rw [ep1]; exact G0.si (by simp [rqM])
      obtain ⟨v, ev⟩ : ∃ v, v = hsi u a 7 1 := ⟨_, rfl⟩
      have Fv : FRX (xP S t) (xJ S t) (wW S t) u v := by rw [ev]; exact FRX.refl.si (Or.inr (Or.inr at'))
      have F1 : FRX (rqP t a) sJ nW g v := by
        rw [ev]
        exact (u3.x (P2 := rqP t a) (J2 := sJ) (W2 := nW) (fun a' k z => by unfold tP at z; unfold rqP; omega) (fun k => rfl)).si (Or.inl ⟨rfl, rfl⟩)
      have aku : a < hz u ∧ hk u a = 3 := by rw [u3.1.1, u3.1.2.2.1]; exact ak
      have STv := u2.con Fv (FRX.refl (P := xM) (J := nJ) (W := nW))
      rcases e_m_isWord (w := 15) STv (by decide) (by decide) with ⟨w1, w2⟩ | ⟨w1, w2⟩
      · obtain ⟨p2, ep2⟩ : ∃ p2, p2 = hsi p1 1290 j 1 := ⟨_, rfl⟩
        have G2x : FRX xM nJ nW p1 p2 := by rw [ep2]; exact FRX.refl.si (by simp [xM])
        have ST2 := STv.con (FRX.refl (P := xP S t) (J := xJ S t) (W := wW S t)) G2x
        obtain ⟨y, y1, y2, y3⟩ := exY (x := 10) ST2 w1 (by decide)
        have tk2 := e_m_take ST2.2.2.2.2.2.2 ST2.2.2.2.2.2.1
        have G2 : FRX (rqM j) sJ nW h (hsi p2 1262 13 (nI (k + 1 + 1))) := by rw [ep2]; exact (G1.si (Or.inr ⟨rfl, rfl⟩)).si (by simp [rqM])
        have F2 : FRX (rqP t a) sJ nW g y := F1.trans (y3.x (fun a' k z => by unfold tP at z; unfold rqP; omega) (fun k => rfl))
        rcases exp2 (x := 41) y2 (by decide) with ⟨z, q, x1, x2, x3, x4, x5⟩ | ⟨z, q, x1, x2, x3, x4, x5⟩
        · refine Or.inl ⟨z, q, k + 1 + 1 + 1, o_pos P.tk (o_pos kq (o_pos ak (o_pos s1 (o_bind u1 (o_pos aku (o_pos u2.1.tk (o_bind (v := (1, y)) (by show f_p_expect t 10 (hsi u a 7 1) = _; rw [← ev]; exact y1) (o_neg one0 (o_pos y2.1.tk (o_bind x1 (o_neg one0 rfl))))))))))), o_pos m14' (o_pos j256 (o_bind q2 (o_pos one0 (o_pos j256 (o_pos (by rw [i86]; exact s2) (o_bind tk1 (o_bind w2 (o_pos one0 (o_pos j256 (o_bind (v := ((), hsi p2 1262 13 (nI (k + 1 + 1)))) (by show f_m_take (hsi p1 1290 j 1) = _; rw [← ep2]; exact tk2) (o_bind x2 rfl))))))))))), x3, ⟨1, by decide, ?_, ?_⟩, F2.trans (x4.x (fun a' k z => by unfold tP at z; unfold rqP; omega) (fun k => rfl)), G2.trans (x5.x (fun a' k z => by unfold m13 at z; unfold rqM; omega) (fun k => rfl))⟩
          · rw [x4.at (by unfold tP; omega), y3.at (by unfold tP; omega), ev, hi_at]; rfl
          · rw [x5.at (by simp [m13]), hi_hsi_ne (by decide), ep2, hi_at]; rfl
        · exact Or.inr ⟨z, q, o_pos P.tk (o_pos kq (o_pos ak (o_pos s1 (o_bind u1 (o_pos aku (o_pos u2.1.tk (o_bind (v := (1, y)) (by show f_p_expect t 10 (hsi u a 7 1) = _; rw [← ev]; exact y1) (o_neg one0 (o_pos y2.1.tk (o_bind x1 (o_pos rfl rfl))))))))))), o_pos m14' (o_pos j256 (o_bind q2 (o_pos one0 (o_pos j256 (o_pos (by rw [i86]; exact s2) (o_bind tk1 (o_bind w2 (o_pos one0 (o_pos j256 (o_bind (v := ((), hsi p2 1262 13 (nI (k + 1 + 1)))) (by show f_m_take (hsi p1 1290 j 1) = _; rw [← ep2]; exact tk2) (o_bind x2 rfl))))))))))), x3, F2.trans (x4.x (fun a' k z => by unfold tF at z; unfold rqP; omega) (fun k => rfl)), G2.trans (x5.x (fun a' k z => by unfold m14 at z; unfold rqM; omega) (fun k => rfl))⟩
      · obtain ⟨y, q, r1, r2, r3, r4, r5, r6⟩ := STv.mis
        have r1' := exN (x := 10) STv w1 r1
        exact Or.inr ⟨y, q, o_pos P.tk (o_pos kq (o_pos ak (o_pos s1 (o_bind u1 (o_pos aku (o_pos u2.1.tk (o_bind (v := (0, y)) (by show f_p_expect t 10 (hsi u a 7 1) = _; rw [← ev]; exact r1') (o_pos rfl rfl)))))))), o_pos m14' (o_pos j256 (o_bind q2 (o_pos one0 (o_pos j256 (o_pos (by rw [i86]; exact s2) (o_bind tk1 (o_bind w2 (o_neg (not_not_intro rfl) (o_bind r2 rfl))))))))), r3, F1.trans (r4.x (fun a' k z => by unfold tF at z; unfold rqP; omega) (fun k => rfl)), G1.trans (r5.x (fun a' k z => by unfold m14 at z; unfold rqM; omega) (fun k => rfl))⟩
  · exact Or.inl ⟨g, h0, k, o_pos P.tk (o_neg (by rw [a6]; exact q1) rfl), o_pos m14' (o_pos j256 (o_bind q2 (o_neg (not_not_intro rfl) rfl))), ST0, ⟨0, by decide, e7, by rw [eh0, hi_at]; rfl⟩, FRX.refl, G0⟩
theorem nf_tableType {x : Int32} (m : ¬ hi h 1262 14 = 0) : f_m_tableType x h = some ((), h) := by
  unfold f_m_tableType
  exact o_neg m rfl
theorem nf_defaults {x : Int32} (m : ¬ hi h 1262 14 = 0) : f_m_defaults x h = some ((), h) := by
  unfold f_m_defaults
  exact o_neg m rfl
theorem nf_needed {x : Int32} (m : ¬ hi h 1262 14 = 0) : f_m_needed x h = some ((), h) := by
  unfold f_m_needed
  exact o_neg m rfl
end Rq
section At
variable {T : Nat → Nat} {n c S t nd ns fs nt ft nu fu na es et eu lo k : Nat} {g h u p : XH}
/-- a field of the table that is read: its type is known -/
theorem BG.addT (A : BG T n c S t nd ns fs nt ft nu fu na es et eu lo g h) (hf : ft < 16) (he : et = nt + 1) (q : TF c t es et eu lo na g h (dT S nt + 2 + ft) (16 * nt + ft)) : BG T n c S t nd ns fs nt (ft + 1) nu fu na es et eu lo g h := by
  obtain ⟨M, K, D, SS, SC', TT, TC, UU, UC, E, I, ⟨l1, l2, l3, l4, l5, l6, l7, l8, l9, l10, l11, l12, l13, l14⟩⟩ := A
  refine ⟨M, K, D, SS, SC', TT, fun f hf' => ?_, UU, UC, fun i h1 h2 => (E i h1 h2).up (by omega) (Nat.le_refl _), I, ⟨l1, l2, l3, l4, l5, l6, l7, l8, l9, l10, by omega, l12, Or.inr ⟨by omega, he⟩, l14⟩⟩
  by_cases cf : f = ft
  · rw [cf]; exact q
  · exact TC f (by omega)
/-- it is awaited -/
theorem BG.askT (A : BG T n c S t nd ns fs nt ft nu fu na es et eu 0 g h) (hf : ft < 16) (he : et = nt + 1) (q : TF c t es et eu 0 (na + 1) g h (dT S nt + 2 + ft) (16 * nt + ft)) (r : hr g (t + 1) na = some (dT S nt + 2 + ft)) (ae : AE c S t nt (ft + 1) nu fu g h na) : BG T n c S t nd ns fs nt (ft + 1) nu fu (na + 1) es et eu 0 g h := by
  obtain ⟨M, K, D, SS, SC', TT, TC, UU, UC, E, I, ⟨l1, l2, l3, l4, l5, l6, l7, l8, l9, l10, l11, l12, l13, l14⟩⟩ := A
  refine ⟨M, K, D, SS, SC', fun s hs => ?_, fun f hf' => ?_, fun s hs => ?_, fun f hf => (UC f hf).up, fun i h1 h2 => ?_, fun i j h1 h2 => ?_, ⟨l1, l2, l3, l4, l5, l6, l7, l8, l9, l10, by omega, l12, Or.inr ⟨by omega, he⟩, l14⟩⟩
  · obtain ⟨m, m1, m2, m3, m4⟩ := TT s hs
    exact ⟨m, m1, m2, m3, fun f hf => (m4 f hf).up⟩
  · by_cases cf : f = ft
    · rw [cf]; exact q
    · exact (TC f (by omega)).up
  · obtain ⟨m, m0, m1, m2, m3, m4⟩ := UU s hs
    exact ⟨m, m0, m1, m2, m3, fun f hf => (m4 f hf).up⟩
  · by_cases ci : i = na
    · rw [ci]; exact ae
    · exact (E i h1 (by omega)).up (by omega) (Nat.le_refl _)
  · by_cases cj : j = na
    · rw [cj, r]
      intro z
      have := (E i (Nat.zero_le i) (by omega)).lt z
      unfold dT dU at this
      omega
    · exact I i j h1 (by omega)
end At
/-- both in a table's body, behind f fields -/
def TB (T : Nat → Nat) (n c S t nd ns nt nu na es et eu k f : Nat) (g h : XH) : Prop := ST T n c g h t S k ∧ BG T n c S t nd ns 0 nt f nu 0 na es et eu 0 g h ∧ CN S t nd ns nt nu na es et eu g h ∧ LY h ∧ hi g (dT S nt) 3 = nI f ∧ hi h 1283 nt = nI f ∧ et = nt + 1
def bTP (S t nt f a k : Nat) : Prop := (a = t ∧ (k = 3 ∨ (5 ≤ k ∧ k ≤ 8))) ∨ (a = dT S nt + 2 + f ∧ 2 ≤ k) ∨ (a = dT S nt ∧ k = 3)
def bTJ (S nt f a _k : Nat) : Prop := a = 1316 ∨ a = dT S nt + 2 + f
def bTM (nt f na a k : Nat) : Prop := (a = 1262 ∧ ((13 ≤ k ∧ k ≤ 15) ∨ k = 46)) ∨ (a = 1283 ∧ k = nt) ∨ (1285 ≤ a ∧ a ≤ 1290 ∧ k = 16 * nt + f) ∨ (1295 ≤ a ∧ a ≤ 1297 ∧ k = na)
def bTL (nt f a k : Nat) : Prop := a = 1316 ∨ (a = 1291 ∧ k = 16 * nt + f)
section Tb
variable {T : Nat → Nat} {n c S t nd ns nt nu na es et eu k f : Nat} {g h u p : XH}
theorem bTP_y {KK : Nat → Nat} {a k : Nat} (hn' : nt < 16) (hf : f < 16) (z : bTP S t nt f a k) : yP KK S t ns 0 nt f nu 0 a k := by
  unfold bTP dT at z
  unfold yP dS dT dU
  rcases z with z | z | z
  · exact Or.inl z.1
  · exact Or.inr (Or.inr ⟨Or.inl (by omega), by omega⟩)
  · exact Or.inr (Or.inr ⟨Or.inl (by omega), by omega⟩)
theorem bTJ_y {a k : Nat} (hn' : nt < 16) (hf : f < 16) (z : bTJ S nt f a k) : yJ S t ns 0 nt f nu 0 es et eu a k := by
  rcases z with z | z
  · exact Or.inl z
  · refine Or.inr (Or.inr (Or.inr (Or.inl ?_)))
    unfold dT at *
    omega
theorem bTM_z {a k : Nat} (z : bTM nt f na a k) : zP nd ns 0 nt f nu 0 na a k := by
  rcases z with ⟨e, h1⟩ | ⟨e, h1⟩ | ⟨e, h1, h2⟩ | ⟨h1, h2, h3⟩
  · exact Or.inl ⟨e, by omega⟩
  · exact Or.inr (Or.inr (Or.inr (Or.inr (Or.inr (Or.inl ⟨Or.inl e, by omega⟩)))))
  · exact Or.inr (Or.inr (Or.inr (Or.inr (Or.inr (Or.inr (Or.inl ⟨e, h1, by omega⟩))))))
  · exact Or.inr (Or.inr (Or.inr (Or.inr (Or.inr (Or.inr (Or.inr (Or.inr (Or.inr ⟨h1, h2, by omega⟩))))))))
theorem bTL_z {a k : Nat} (z : bTL nt f a k) : zJ nt f a k := z.imp id fun z => ⟨z.1, by omega⟩
/-- one field of a table -/
theorem tableTurn (A : TB T n c S t nd ns nt nu na es et eu k f g h) (hf : f ≤ 16) (nq : ¬ hi g 8 k = 125) : (∃ u p k' na', (∀ K i, i ≤ 4000 → s_p_readTable_17 K t (some (dT S nt)) (nI i) g = K t (some (dT S nt)) (nI (i + 1)) u) ∧ (∀ K, s_m_tableBody_12 K (nI nt) h = K (nI nt) p) ∧ TB T n c S t nd ns nt nu na' es et eu k' (f + 1) u p ∧ f < 16 ∧ FC S t g u ∧ FMx h p) ∨ (∃ u p, (∀ K i, i ≤ 4000 → s_p_readTable_17 K t (some (dT S nt)) (nI i) g = some (0, u)) ∧ (∀ K, s_m_tableBody_12 K (nI nt) h = K (nI nt) p) ∧ FLT u p t ∧ FC S t g u ∧ FMx h p) := by
  obtain ⟨ST0, B, N, Lh, e3, e83, het⟩ := A
  have B' := B
  obtain ⟨BM, BK, BD, -, -, -, BT, -, -, -, -, ⟨l1, l2, l3, l4, l5, l6, l7, l8, l9, l10, l11, -⟩⟩ := B'
  have ST0' := ST0
  obtain ⟨P, K, kc', a5, a6, m13', m14'⟩ := ST0'
  have c4 := K.2.2.2.1
  have t17 := P.2.1
  have S1 := P.2.2.2.1
  have L := ST0.scq
  have n16 : nt < 16 := by omega
  have D := L.ddT (s := nt) n16
  have dr : S + 197 ≤ dT S nt ∧ dT S nt + 20 ≤ S + 517 := by unfold dT; omega
  have r85 : 1285 < hz h ∧ hk h 1285 = 100 := ⟨Lh.lt (by decide), Lh.k1285⟩
  have e16 : (16 : Int32) * nI nt = nI (16 * nt) := by rw [n_16, pk_mul]
  have q2 : f_m_isSign 125 h = some (0, h) := by
    rcases e_m_isSign (x := 125) ST0 (by decide) with ⟨q1, -⟩ | ⟨-, q2⟩
    · exact absurd q1 nq
    · exact q2
  have sm : ∀ {K : Int32 → XH → Option (Unit × XH)} {X : Option (Unit × XH)} {p1 p2 p3 p4 p5 p6 p7 : XH}, f_m_fresh 1285 (nI (16 * nt)) (nI f) (nI 16) h = some ((), p1) → f_m_take p1 = some ((), p2) → f_m_sign 58 p2 = some ((), p3) → f_m_tableType (nI (16 * nt + f)) p3 = some ((), p4) → f_m_defaults (nI (16 * nt + f)) p4 = some ((), p5) → f_m_needed (nI (16 * nt + f)) p5 = some ((), p6) → f_m_sign 59 p6 = some ((), p7) → (if ¬ (hi p7 1262 14) = 0 then K (nI nt) p7 else (if 0 ≤ nI (16 * nt + f) ∧ nI (16 * nt + f) < nI 256 then (if 0 ≤ nI nt ∧ nI nt < nI 16 then K (nI nt) (hsi (hsi p7 1285 (16 * nt + f) (hi p1 1262 13)) 1283 nt ((hi p7 1283 nt) + 1)) else none) else none)) = X → s_m_tableBody_12 K (nI nt) h = X := by
    intro K X p1 p2 p3 p4 p5 p6 p7 q1 q3 q4 q5 q6 q7 q8 q9
    unfold s_m_tableBody_12 b_m_tableBody_120
    refine o_neg (not_not_intro m14') (o_bind q2 (o_neg (not_not_intro rfl) ?_))
    show (if 0 ≤ nI nt ∧ nI nt < nI 16 then _ else none) = X
    rw [nI_clamp (show nt < 2 ^ 31 by omega), e83, e16, nI_add, nI_clamp (show 16 * nt + f < 2 ^ 31 by omega)]
    exact o_pos (by (first | (simp (maxSteps := 4000000) (disch := omega) only [n_0, n_1, n_2, n_3, n_4, n_5, n_6, n_7, n_8, n_9, n_10, n_11, n_12, n_13, n_14, n_15, n_16, n_18, n_20, n_24, n_31, n_32, n_34, n_40, n_41, n_44, n_45, n_47, n_48, n_57, n_58, n_59, n_61, n_63, n_64, n_65, n_68, n_90, n_91, n_93, n_95, n_97, n_100, n_122, n_123, n_125, n_128, n_144, n_200, n_255, n_256, n_300, n_400, n_600, n_1536, n_3980, n_4000, n_4001, n_4300, n_65536, l_0, l_1, l_2, l_3, l_4, l_10, l_48, l_63, l_255, l_300, nI_ltI, nI_leI, nI_eq, nI_clamp, nI_add, pk_sub, pk_mul, nI_ne1, ne1_nI, nI_pge, nI_nlt0, nI_l, lN_i, lN_add, lN_mul, lN_sub, pk_lLT, pk_lLE, pk_lEQ, lg_lt, lg_ge, lg_eq0, lg_le, lg_gt, lg_ltn, lg_gen, lg_eq0n, lg_len, lg_gtn, Nat.zero_le, Nat.not_lt_zero, not_false_eq_true, not_true_eq_false, true_and, and_true]; done) | (simp (maxSteps := 4000000) (disch := omega) only [n_0, n_1, n_2, n_3, n_4, n_5, n_6, n_7, n_8, n_9, n_10, n_11, n_12, n_13, n_14, n_15, n_16, n_18, n_20, n_24, n_31, n_32, n_34, n_40, n_41, n_44, n_45, n_47, n_48, n_57, n_58, n_59, n_61, n_63, n_64, n_65, n_68, n_90, n_91, n_93, n_95, n_97, n_100, n_122, n_123, n_125, n_128, n_144, n_200, n_255, n_256, n_300, n_400, n_600, n_1536, n_3980, n_4000, n_4001, n_4300, n_65536, l_0, l_1, l_2, l_3, l_4, l_10, l_48, l_63, l_255, l_300, nI_ltI, nI_leI, nI_eq, nI_clamp, nI_add, pk_sub, pk_mul, nI_ne1, ne1_nI, nI_pge, nI_nlt0, nI_l, lN_i, lN_add, lN_mul, lN_sub, pk_lLT, pk_lLE, pk_lEQ, lg_lt, lg_ge, lg_eq0, lg_le, lg_gt, lg_ltn, lg_gen, lg_eq0n, lg_len, lg_gtn, Nat.zero_le, Nat.not_lt_zero, not_false_eq_true, not_true_eq_false, true_and, and_true]; omega) | omega)) (o_bind q1 (o_bind q3 (o_bind q4 (o_bind q5 (o_bind q6 (o_bind q7 (o_bind q8 q9)))))))
  -- overall frames
  have fcc : ∀ {u : XH}, f < 16 → FRX (bTP S t nt f) (bTJ S nt f) (tyW t na) g u → FC S t g u := fun f16 F => F.mono (fun a k z => yP_c (bTP_y (ns := ns) (nu := nu) n16 f16 z)) (fun a k z => yJ_c (bTJ_y (t := t) (ns := ns) (nu := nu) (es := es) (et := et) (eu := eu) n16 f16 z)) (fun _ _ z => Or.inr (by rw [z.1]; omega))
  have fmm : ∀ {p : XH}, FRX (bTM nt f na) (bTL nt f) nW h p → FMx h p := fun G => G.mono (fun a k z => zP_m (bTM_z (nd := nd) (ns := ns) (nu := nu) z)) (fun a k z => zJ_m (bTL_z z)) (fun _ _ z => z)
  have kne : ¬ hi g t 6 = 125 := by rw [a6]; exact nq
  rcases newField2 (R := 1285) (b := 16 * nt) ST0 BM D (by omega) (by omega) e3 hf (fun j hj' => (BT j hj').1) r85 (by rw [Lh.n1285]; omega) (by rw [Lh.n1285]; decide) with ⟨u1, w1, w2, w3, w4, w5, w6, w7, w8, w9, w10, w11⟩ | ⟨u, p, w1, w2, w3, w4, w5⟩
  · obtain ⟨n1, n2, n3, n4, n5, n6, n7, n8, n9, n10⟩ := N
    have ak : dT S nt + 2 + f < hz g ∧ hk g (dT S nt + 2 + f) = 3 := ⟨by have := D.1; omega, (D.2.2.2.2.2.2.2.2.1 f w3).2⟩
    have at' : S ≤ dT S nt + 2 + f ∧ dT S nt + 2 + f < S + 615 := by omega
    have F1 : FRX (bTP S t nt f) (bTJ S nt f) (tyW t na) g u1 := w6.mono (fun a k z => by unfold nfP at z; unfold bTP; omega) (fun a k z => Or.inr z) (fun _ _ z => z.elim)
    have G1 : FRX (bTM nt f na) (bTL nt f) nW h (hsi h 1262 13 (nI (k + 1))) := FRX.refl.si (by simp [bTM])
    have tk1 := e_m_take m14' m13'
    have cP : ∀ {K : Nat → Option Nat → Int32 → XH → Option (Int32 × XH)} {i : Nat} {X : Option (Int32 × XH)}, i ≤ 4000 → (Option.bind (f_p_expect t 58 u1) fun r17 => (if r17.1 = 0 then (some (0, r17.2)) else (if t < hz r17.2 ∧ hk r17.2 t = 7 then (Option.bind (f_p_readType t (dT S nt + 2 + f) r17.2) fun r22 => (if r22.1 = 0 then (some (0, r22.2)) else (if t < hz r22.2 ∧ hk r22.2 t = 7 then (Option.bind (f_p_readDefault t (dT S nt + 2 + f) r22.2) fun r27 => (if r27.1 = 0 then (some (0, r27.2)) else (if t < hz r27.2 ∧ hk r27.2 t = 7 then (Option.bind (f_p_readRequired t (dT S nt + 2 + f) r27.2) fun r32 => (if r32.1 = 0 then (some (0, r32.2)) else (if t < hz r32.2 ∧ hk r32.2 t = 7 then (Option.bind (f_p_expect t 59 r32.2) fun r37 => (if ¬ r37.1 = 0 then (K t (some (dT S nt)) (nI i + 1) r37.2) else (some (0, r37.2)))) else none))) else none))) else none))) else none))) = X → s_p_readTable_17 K t (some (dT S nt)) (nI i) g = X := fun hi' r => by
      unfold s_p_readTable_17
      exact o_pos P.tk (o_neg kne (o_neg (by (first | (simp (maxSteps := 4000000) (disch := omega) only [n_0, n_1, n_2, n_3, n_4, n_5, n_6, n_7, n_8, n_9, n_10, n_11, n_12, n_13, n_14, n_15, n_16, n_18, n_20, n_24, n_31, n_32, n_34, n_40, n_41, n_44, n_45, n_47, n_48, n_57, n_58, n_59, n_61, n_63, n_64, n_65, n_68, n_90, n_91, n_93, n_95, n_97, n_100, n_122, n_123, n_125, n_128, n_144, n_200, n_255, n_256, n_300, n_400, n_600, n_1536, n_3980, n_4000, n_4001, n_4300, n_65536, l_0, l_1, l_2, l_3, l_4, l_10, l_48, l_63, l_255, l_300, nI_ltI, nI_leI, nI_eq, nI_clamp, nI_add, pk_sub, pk_mul, nI_ne1, ne1_nI, nI_pge, nI_nlt0, nI_l, lN_i, lN_add, lN_mul, lN_sub, pk_lLT, pk_lLE, pk_lEQ, lg_lt, lg_ge, lg_eq0, lg_le, lg_gt, lg_ltn, lg_gen, lg_eq0n, lg_len, lg_gtn, Nat.zero_le, Nat.not_lt_zero, not_false_eq_true, not_true_eq_false, true_and, and_true]; done) | (simp (maxSteps := 4000000) (disch := omega) only [n_0, n_1, n_2, n_3, n_4, n_5, n_6, n_7, n_8, n_9, n_10, n_11, n_12, n_13, n_14, n_15, n_16, n_18, n_20, n_24, n_31, n_32, n_34, n_40, n_41, n_44, n_45, n_47, n_48, n_57, n_58, n_59, n_61, n_63, n_64, n_65, n_68, n_90, n_91, n_93, n_95, n_97, n_100, n_122, n_123, n_125, n_128, n_144, n_200, n_255, n_256, n_300, n_400, n_600, n_1536, n_3980, n_4000, n_4001, n_4300, n_65536, l_0, l_1, l_2, l_3, l_4, l_10, l_48, l_63, l_255, l_300, nI_ltI, nI_leI, nI_eq, nI_clamp, nI_add, pk_sub, pk_mul, nI_ne1, ne1_nI, nI_pge, nI_nlt0, nI_l, lN_i, lN_add, lN_mul, lN_sub, pk_lLT, pk_lLE, pk_lEQ, lg_lt, lg_ge, lg_eq0, lg_le, lg_gt, lg_ltn, lg_gen, lg_eq0n, lg_len, lg_gtn, Nat.zero_le, Nat.not_lt_zero, not_false_eq_true, not_true_eq_false, true_and, and_true]; omega) | omega)) (o_bind rfl (o_bind w1 (o_elim (o_pos w5.1.tk r))))))
    rcases exp2 (x := 58) w5 (by decide) with ⟨u2, p2, x1, x2, x3, x4, x5⟩ | ⟨u2, p2, x1, x2, x3, x4, x5⟩
    · have F2 : FRX (bTP S t nt f) (bTJ S nt f) (tyW t na) g u2 := F1.trans (x4.x (fun a k z => by unfold tP at z; unfold bTP; omega) (fun k => Or.inl rfl))
      have G2 : FRX (bTM nt f na) (bTL nt f) nW h p2 := G1.trans (x5.x (fun a k z => by unfold m13 at z; unfold bTM; omega) (fun k => Or.inl rfl))
      have a2 : ∀ k, hi u2 (dT S nt + 2 + f) k = hi u1 (dT S nt + 2 + f) k := fun k => x4.at (by unfold tP; omega)
      have ak2 : dT S nt + 2 + f < hz u2 ∧ hk u2 (dT S nt + 2 + f) = 3 := by rw [F2.1.1, F2.1.2.2.1]; exact ak
      rcases type2 (a := dT S nt + 2 + f) (j := 16 * nt + f) (na := na) x3 ak2 at' (by omega) (by omega) (by rw [x4.at (by unfold tP; omega), w6.at (by unfold nfP; omega)]; exact n9) (by rw [x5.at (by simp [m13]), hi_nk (by decide)]; exact n10) (by rw [a2]; exact w8.2.1) (by rw [a2]; exact w8.2.2.1) (by rw [a2]; exact w8.2.2.2.1) with ⟨u3, p3, k3, na1, y1, y2, y3, y4, y5, y6, y7, y8⟩ | ⟨u3, p3, y1, y2, y3, y4, y5⟩
      · have F3 : FRX (bTP S t nt f) (bTJ S nt f) (tyW t na) g u3 := F2.trans (y7.mono (fun a k z => by unfold tyP at z; unfold bTP; omega) (fun _ _ z => Or.inl z) (fun _ _ z => z))
        have G3 : FRX (bTM nt f na) (bTL nt f) nW h p3 := G2.trans (y8.mono (fun a k z => by unfold tyM at z; unfold bTM; omega) (fun _ _ z => Or.inl z) (fun _ _ z => z))
        have ak3 : dT S nt + 2 + f < hz u3 ∧ hk u3 (dT S nt + 2 + f) = 3 := by rw [F3.1.1, F3.1.2.2.1]; exact ak
        have j3 : ∀ k, hj u3 (dT S nt + 2 + f) k = hj u1 (dT S nt + 2 + f) k := fun k => by rw [y7.lg (by unfold sJ; omega), x4.hj (by omega)]
        have M3 : MTx p3 T n := ⟨by rw [G3.at (by simp [bTM])]; exact BM.1, BM.2.1, BM.2.2.1, fun k hk' => by rw [G3.at (by simp [bTM])]; exact BM.2.2.2 k hk'⟩
        rcases default2 (a := dT S nt + 2 + f) (j := 16 * nt + f) y3 M3 ak3 at' (by omega) y4.sc (by rw [j3]; exact w11) with ⟨u4, p4, k4, z1, z2, z3, z4, z5, z6, z7⟩ | ⟨u4, p4, z1, z2, z3, z4, z5⟩
        · have F4 : FRX (bTP S t nt f) (bTJ S nt f) (tyW t na) g u4 := F3.trans (z6.mono (fun a k z => by unfold t58 at z; unfold bTP; omega) (fun a k z => by unfold dfJ at z; unfold bTJ; omega) (fun _ _ z => z.elim))
          have G4 : FRX (bTM nt f na) (bTL nt f) nW h p4 := G3.trans (z7.mono (fun a k z => by unfold m135 at z; unfold bTM; omega) (fun _ _ z => z) (fun _ _ z => z))
          have ak4 : dT S nt + 2 + f < hz u4 ∧ hk u4 (dT S nt + 2 + f) = 3 := by rw [F4.1.1, F4.1.2.2.1]; exact ak
          have y4' : FTy c t (dT S nt + 2 + f) (16 * nt + f) na na1 u4 p4 := y4.fr z6 z7 ⟨fun k _ _ => by unfold t58; omega, fun k => by unfold t58; omega, id⟩ ⟨fun b h1 h2 => by unfold m135; omega, fun b h1 h2 => by unfold m135; omega⟩
          have sc4 : (hi u4 (dT S nt + 2 + f) 3 = 0 ∧ hi p4 1286 (16 * nt + f) = 0) ∨ (¬ hi u4 (dT S nt + 2 + f) 3 = 0 ∧ ¬ hi p4 1286 (16 * nt + f) = 0) := y4'.sc.imp (fun z => ⟨z.1, z.2.1⟩) id
          rcases required2 (a := dT S nt + 2 + f) (j := 16 * nt + f) z3 ak4 at' (by omega) sc4 (by rw [z6.at (by unfold t58; omega), y7.at (by unfold tyP; omega), a2]; exact w8.2.2.2.2) with ⟨u5, p5, k5, v1, v2, v3, v4, v5, v6⟩ | ⟨u5, p5, v1, v2, v3, v4, v5⟩
          · have F5 : FRX (bTP S t nt f) (bTJ S nt f) (tyW t na) g u5 := F4.trans (v5.mono (fun a k z => by unfold rqP at z; unfold bTP; omega) (fun _ _ z => Or.inl z) (fun _ _ z => z.elim))
            have G5 : FRX (bTM nt f na) (bTL nt f) nW h p5 := G4.trans (v6.mono (fun a k z => by unfold rqM at z; unfold bTM; omega) (fun _ _ z => Or.inl z) (fun _ _ z => z))
            rcases exp2 (x := 59) v3 (by decide) with ⟨u6, p6, r1, r2, r3, r4, r5⟩ | ⟨u6, p6, r1, r2, r3, r4, r5⟩
            · refine Or.inl ?_
              have F6 : FRX (bTP S t nt f) (bTJ S nt f) (tyW t na) g u6 := F5.trans (r4.x (fun a k z => by unfold tP at z; unfold bTP; omega) (fun k => Or.inl rfl))
              have G6 : FRX (bTM nt f na) (bTL nt f) nW h p6 := G5.trans (r5.x (fun a k z => by unfold m13 at z; unfold bTM; omega) (fun k => Or.inl rfl))
              obtain ⟨p7, ep7⟩ : ∃ p7, p7 = hsi (hsi p6 1285 (16 * nt + f) (nI k)) 1283 nt (nI (f + 1)) := ⟨_, rfl⟩
              have G7 : FRX (bTM nt f na) (bTL nt f) nW h p7 := by
                rw [ep7]
                exact (G6.si (by simp [bTM])).si (by simp [bTM])
              have G67 : FRX xM nJ nW p6 p7 := by
                rw [ep7]
                exact (FRX.refl.si (by simp [xM])).si (by simp [xM])
              have B7 : BG T n c S t nd ns 0 nt f nu 0 na es et eu 0 u6 p7 := B.fr P.1 t17 (F6.mono (fun a k z => bTP_y n16 w3 z) (fun a k z => bTJ_y n16 w3 z) (fun _ _ z => Or.inr ⟨z.1, by rw [z.2]; exact Nat.le_refl _⟩)) (G7.mono (fun a k z => bTM_z z) (fun a k z => bTL_z z) (fun _ _ z => z))
              have ST7 : ST T n c u6 p7 t S (k5 + 1) := r3.con FRX.refl G67
              -- what later steps leave
              have u56 : ∀ b k, b ≠ t → hi u6 b k = hi u5 b k := fun b k hb => r4.at (fun z => hb z.1)
              have p67 : ∀ b k, b ≠ 1262 → b ≠ 1285 → b ≠ 1283 → hi p7 b k = hi p5 b k := fun b k b1 b2 b3 => by rw [ep7, hi_hsi_ne b3, hi_hsi_ne b2, r5.at (fun z => b1 z.1)]
              have pj : hj p7 1291 = hj p5 1291 := by rw [ep7, hj_hsi, hj_hsi, r5.hj (by decide)]
              have y5' : FTy c t (dT S nt + 2 + f) (16 * nt + f) na na1 u5 p5 := y4'.fr v5 v6 ⟨fun k _ h2 => by unfold rqP; omega, fun k => by unfold rqP; omega, id⟩ ⟨fun b h1 h2 => by unfold rqM; omega, fun b h1 h2 => by unfold rqM; omega⟩
              have y7' : FTy c t (dT S nt + 2 + f) (16 * nt + f) na na1 u6 p7 := y5'.fr (P := tP t) (J := sJ) (W := nW) (r4.x (fun _ _ z => z) (fun k => rfl)) (P2 := fun b _ => b = 1262 ∨ b = 1285 ∨ b = 1283) (J2 := sJ) (W2 := nW) (by
                rw [ep7]
                exact ((r5.x (P2 := fun b _ => b = 1262 ∨ b = 1285 ∨ b = 1283) (J2 := sJ) (W2 := nW) (fun a k z => Or.inl z.1) (fun k => rfl)).si (Or.inr (Or.inl rfl))).si (Or.inr (Or.inr rfl))) ⟨fun k _ _ => by unfold tP; omega, fun k => by unfold tP; omega, id⟩ ⟨fun b h1 h2 => by omega, fun b h1 h2 => by omega⟩
              have jf : ∀ k, k ≠ 8 → hj u6 (dT S nt + 2 + f) k = hj u1 (dT S nt + 2 + f) k := fun k hk' => by rw [r4.hj (by omega), v5.lg (by unfold sJ; omega), z6.lg (by unfold dfJ; omega), j3]
              have j8 : hj u6 (dT S nt + 2 + f) 8 = hj p7 1291 (16 * nt + f) := by rw [r4.hj (by omega), v5.lg (by unfold sJ; omega), z4, pj, v6.lg (by simp [sJ])]
              have z5' : ¬ hi p7 1286 (16 * nt + f) = 0 → hj p7 1291 (16 * nt + f) = 0 := fun z => by
                rw [pj, v6.lg (by simp [sJ])]
                refine z5 (fun w => z ?_)
                rw [p67 _ _ (by decide) (by decide) (by decide), v6.at (by simp [rqM]), z7.at (by simp [m135])]
                exact w
              have g8 : hi u6 8 k = hi g 8 k := F6.at (by unfold bTP; omega)
              have nm : NAq c u6 (hi p7 1285 (16 * nt + f)) (hj u6 (dT S nt + 2 + f) 0) (hj u6 (dT S nt + 2 + f) 1) := by
                refine ⟨k, kc', by rw [ep7, hi_hsi_ne (by decide), hi_at], by rw [g8]; exact w4, ?_, ?_⟩
                · rw [jf 0 (by decide), w9]; exact (F6.lg (by unfold bTJ; omega)).symm
                · rw [jf 1 (by decide), w10]; exact (F6.lg (by unfold bTJ; omega)).symm
              have ne7 : ∃ ne, ne ≤ 1 ∧ hi u6 (dT S nt + 2 + f) 7 = nI ne ∧ hi p7 1290 (16 * nt + f) = nI ne := by
                obtain ⟨ne, e1, e2, e4⟩ := v4
                exact ⟨ne, e1, by rw [u56 _ _ (by omega)]; exact e2, by rw [p67 _ _ (by decide) (by decide) (by decide)]; exact e4⟩
              have c3 : hi u6 (dT S nt) 3 = nI (f + 1) := by
                rw [u56 _ _ (by omega), v5.at (by unfold rqP; omega), z6.at (by unfold t58; omega), y7.at (by unfold tyP; omega), x4.at (by unfold tP; omega)]; exact w7
              have t3 : hi u6 t 3 = nI na1 := by rw [r4.at (by unfold tP; omega), v5.at (by unfold rqP; omega), z6.at (by unfold t58; omega)]; exact y5
              have q46 : hi p7 1262 46 = nI na1 := by rw [ep7, hi_hsi_ne (by decide), hi_hsi_ne (by decide), r5.at (by simp [m13]), v6.at (by simp [rqM]), z7.at (by simp [m135])]; exact y6
              have q83 : hi p6 1283 nt = nI f := by
                rw [r5.at (by simp [m13]), v6.at (by simp [rqM]), z7.at (by simp [m135]), y8.at (by simp [tyM]), x5.at (by simp [m13]), hi_hsi_ne (by decide)]; exact e83
              have gS : ∀ b k, (b = S ∨ b = S + 1 ∨ b = S + 195 ∨ b = S + 517) → hi u6 b k = hi g b k := fun b k hb => F6.at (by unfold bTP; omega)
              have pm : ∀ k, k = 16 ∨ k = 20 ∨ k = 31 ∨ k = 41 → hi p7 1262 k = hi h 1262 k := fun k hk' => G7.at (by unfold bTM; omega)
              have B8 : BG T n c S t nd ns 0 nt (f + 1) nu 0 na1 es et eu 0 u6 p7 := by
                have y7'' := y7'
                rcases y7'' with ⟨q1, so, o, e, q3, q4, q5⟩ | ⟨q1, q3, k0, w, q4, q5, q6, q7, q8, q9, q10⟩
                · rw [q1]
                  refine B7.addT w3 het ⟨nm, ne7, j8, Or.inl ⟨so, o, e, q3, q4, fun z => z5' ?_, ?_⟩⟩
                  · rw [q4.1]
                    exact show ¬ nI so = nI 0 by
                      have : so ≤ 5 := by omega
                      (first | (simp (maxSteps := 4000000) (disch := omega) only [n_0, n_1, n_2, n_3, n_4, n_5, n_6, n_7, n_8, n_9, n_10, n_11, n_12, n_13, n_14, n_15, n_16, n_18, n_20, n_24, n_31, n_32, n_34, n_40, n_41, n_44, n_45, n_47, n_48, n_57, n_58, n_59, n_61, n_63, n_64, n_65, n_68, n_90, n_91, n_93, n_95, n_97, n_100, n_122, n_123, n_125, n_128, n_144, n_200, n_255, n_256, n_300, n_400, n_600, n_1536, n_3980, n_4000, n_4001, n_4300, n_65536, l_0, l_1, l_2, l_3, l_4, l_10, l_48, l_63, l_255, l_300, nI_ltI, nI_leI, nI_eq, nI_clamp, nI_add, pk_sub, pk_mul, nI_ne1, ne1_nI, nI_pge, nI_nlt0, nI_l, lN_i, lN_add, lN_mul, lN_sub, pk_lLT, pk_lLE, pk_lEQ, lg_lt, lg_ge, lg_eq0, lg_le, lg_gt, lg_ltn, lg_gen, lg_eq0n, lg_len, lg_gtn, Nat.zero_le, Nat.not_lt_zero, not_false_eq_true, not_true_eq_false, true_and, and_true]; done) | (simp (maxSteps := 4000000) (disch := omega) only [n_0, n_1, n_2, n_3, n_4, n_5, n_6, n_7, n_8, n_9, n_10, n_11, n_12, n_13, n_14, n_15, n_16, n_18, n_20, n_24, n_31, n_32, n_34, n_40, n_41, n_44, n_45, n_47, n_48, n_57, n_58, n_59, n_61, n_63, n_64, n_65, n_68, n_90, n_91, n_93, n_95, n_97, n_100, n_122, n_123, n_125, n_128, n_144, n_200, n_255, n_256, n_300, n_400, n_600, n_1536, n_3980, n_4000, n_4001, n_4300, n_65536, l_0, l_1, l_2, l_3, l_4, l_10, l_48, l_63, l_255, l_300, nI_ltI, nI_leI, nI_eq, nI_clamp, nI_add, pk_sub, pk_mul, nI_ne1, ne1_nI, nI_pge, nI_nlt0, nI_l, lN_i, lN_add, lN_mul, lN_sub, pk_lLT, pk_lLE, pk_lEQ, lg_lt, lg_ge, lg_eq0, lg_le, lg_gt, lg_ltn, lg_gen, lg_eq0n, lg_len, lg_gtn, Nat.zero_le, Nat.not_lt_zero, not_false_eq_true, not_true_eq_false, true_and, and_true]; omega) | omega)
                  · unfold oQ; omega
                · rw [q1]
                  have i86 : ¬ hi p7 1286 (16 * nt + f) = 0 := by
                    rcases q10 with ⟨-, -, -, -, z⟩ | ⟨-, -, z⟩ <;> rw [z] <;> decide
                  refine B7.askT w3 het ⟨nm, ne7, j8, Or.inr ⟨z5' i86, na, Nat.zero_le _, by omega, q3⟩⟩ q3 ⟨_, k0, w, 16 * nt + f, q3, q6, q7, q4, q5, q8, q9, Or.inl ⟨nt, f, Or.inr ⟨rfl, by omega⟩, n16, w3, rfl, rfl, ?_⟩⟩
                  exact q10.imp (fun z => ⟨z.1, z.2.1, z.2.2.1, z.2.2.2.1⟩) id
              refine ⟨u6, p7, k5 + 1, na1, fun K i hi' => ?_, fun K => ?_, ⟨ST7, B8, ⟨?_, ?_, ?_, ?_, ?_, ?_, ?_, ?_, t3, q46⟩, (fmm G7).ly Lh, c3, by rw [ep7, hi_at], het⟩, w3, fcc w3 F6, fmm G7⟩
              · refine cP hi' (o_bind x1 (o_neg one0 (o_pos x3.1.tk (o_bind y1 (o_neg one0 (o_pos y3.1.tk (o_bind z1 (o_neg one0 (o_pos z3.1.tk (o_bind v1 (o_neg one0 (o_pos v3.1.tk (o_bind r1 (o_pos one0 ?_))))))))))))))
                rw [n_1, nI_add]
              · refine sm w2 tk1 x2 y2 z2 v2 r2 (o_neg (not_not_intro r3.2.2.2.2.2.2) (o_pos (by (first | (simp (maxSteps := 4000000) (disch := omega) only [n_0, n_1, n_2, n_3, n_4, n_5, n_6, n_7, n_8, n_9, n_10, n_11, n_12, n_13, n_14, n_15, n_16, n_18, n_20, n_24, n_31, n_32, n_34, n_40, n_41, n_44, n_45, n_47, n_48, n_57, n_58, n_59, n_61, n_63, n_64, n_65, n_68, n_90, n_91, n_93, n_95, n_97, n_100, n_122, n_123, n_125, n_128, n_144, n_200, n_255, n_256, n_300, n_400, n_600, n_1536, n_3980, n_4000, n_4001, n_4300, n_65536, l_0, l_1, l_2, l_3, l_4, l_10, l_48, l_63, l_255, l_300, nI_ltI, nI_leI, nI_eq, nI_clamp, nI_add, pk_sub, pk_mul, nI_ne1, ne1_nI, nI_pge, nI_nlt0, nI_l, lN_i, lN_add, lN_mul, lN_sub, pk_lLT, pk_lLE, pk_lEQ, lg_lt, lg_ge, lg_eq0, lg_le, lg_gt, lg_ltn, lg_gen, lg_eq0n, lg_len, lg_gtn, Nat.zero_le, Nat.not_lt_zero, not_false_eq_true, not_true_eq_false, true_and, and_true]; done) | (simp (maxSteps := 4000000) (disch := omega) only [n_0, n_1, n_2, n_3, n_4, n_5, n_6, n_7, n_8, n_9, n_10, n_11, n_12, n_13, n_14, n_15, n_16, n_18, n_20, n_24, n_31, n_32, n_34, n_40, n_41, n_44, n_45, n_47, n_48, n_57, n_58, n_59, n_61, n_63, n_64, n_65, n_68, n_90, n_91, n_93, n_95, n_97, n_100, n_122, n_123, n_125, n_128, n_144, n_200, n_255, n_256, n_300, n_400, n_600, n_1536, n_3980, n_4000, n_4001, n_4300, n_65536, l_0, l_1, l_2, l_3, l_4, l_10, l_48, l_63, l_255, l_300, nI_ltI, nI_leI, nI_eq, nI_clamp, nI_add, pk_sub, pk_mul, nI_ne1, ne1_nI, nI_pge, nI_nlt0, nI_l, lN_i, lN_add, lN_mul, lN_sub, pk_lLT, pk_lLE, pk_lEQ, lg_lt, lg_ge, lg_eq0, lg_le, lg_gt, lg_ltn, lg_gen, lg_eq0n, lg_len, lg_gtn, Nat.zero_le, Nat.not_lt_zero, not_false_eq_true, not_true_eq_false, true_and, and_true]; omega) | omega)) (o_pos (by (first | (simp (maxSteps := 4000000) (disch := omega) only [n_0, n_1, n_2, n_3, n_4, n_5, n_6, n_7, n_8, n_9, n_10, n_11, n_12, n_13, n_14, n_15, n_16, n_18, n_20, n_24, n_31, n_32, n_34, n_40, n_41, n_44, n_45, n_47, n_48, n_57, n_58, n_59, n_61, n_63, n_64, n_65, n_68, n_90, n_91, n_93, n_95, n_97, n_100, n_122, n_123, n_125, n_128, n_144, n_200, n_255, n_256, n_300, n_400, n_600, n_1536, n_3980, n_4000, n_4001, n_4300, n_65536, l_0, l_1, l_2, l_3, l_4, l_10, l_48, l_63, l_255, l_300, nI_ltI, nI_leI, nI_eq, nI_clamp, nI_add, pk_sub, pk_mul, nI_ne1, ne1_nI, nI_pge, nI_nlt0, nI_l, lN_i, lN_add, lN_mul, lN_sub, pk_lLT, pk_lLE, pk_lEQ, lg_lt, lg_ge, lg_eq0, lg_le, lg_gt, lg_ltn, lg_gen, lg_eq0n, lg_len, lg_gtn, Nat.zero_le, Nat.not_lt_zero, not_false_eq_true, not_true_eq_false, true_and, and_true]; done) | (simp (maxSteps := 4000000) (disch := omega) only [n_0, n_1, n_2, n_3, n_4, n_5, n_6, n_7, n_8, n_9, n_10, n_11, n_12, n_13, n_14, n_15, n_16, n_18, n_20, n_24, n_31, n_32, n_34, n_40, n_41, n_44, n_45, n_47, n_48, n_57, n_58, n_59, n_61, n_63, n_64, n_65, n_68, n_90, n_91, n_93, n_95, n_97, n_100, n_122, n_123, n_125, n_128, n_144, n_200, n_255, n_256, n_300, n_400, n_600, n_1536, n_3980, n_4000, n_4001, n_4300, n_65536, l_0, l_1, l_2, l_3, l_4, l_10, l_48, l_63, l_255, l_300, nI_ltI, nI_leI, nI_eq, nI_clamp, nI_add, pk_sub, pk_mul, nI_ne1, ne1_nI, nI_pge, nI_nlt0, nI_l, lN_i, lN_add, lN_mul, lN_sub, pk_lLT, pk_lLE, pk_lEQ, lg_lt, lg_ge, lg_eq0, lg_le, lg_gt, lg_ltn, lg_gen, lg_eq0n, lg_len, lg_gtn, Nat.zero_le, Nat.not_lt_zero, not_false_eq_true, not_true_eq_false, true_and, and_true]; omega) | omega)) ?_)))
                rw [m13', q83, n_1, nI_add, ep7]
              · rw [gS _ _ (by simp)]; exact n1
              · rw [pm _ (by decide)]; exact n2
              · rw [gS _ _ (by simp)]; exact n3
              · rw [gS _ _ (by simp)]; exact n4
              · rw [gS _ _ (by simp)]; exact n5
              · rw [pm _ (by decide)]; exact n6
              · rw [pm _ (by decide)]; exact n7
              · rw [pm _ (by decide)]; exact n8
            · exact Or.inr ⟨u6, p6, fun K i hi' => cP hi' (o_bind x1 (o_neg one0 (o_pos x3.1.tk (o_bind y1 (o_neg one0 (o_pos y3.1.tk (o_bind z1 (o_neg one0 (o_pos z3.1.tk (o_bind v1 (o_neg one0 (o_pos v3.1.tk (o_bind r1 (o_neg (not_not_intro rfl) rfl)))))))))))))), fun K => sm w2 tk1 x2 y2 z2 v2 r2 (o_pos r3.2.2 rfl), r3, (fcc w3 F5).trans (FC.tFq r4), FRX.trans (fmm G5) (FMx.q14 r5)⟩
          · have f3 := v3.2.2
            exact Or.inr ⟨u5, p5, fun K i hi' => cP hi' (o_bind x1 (o_neg one0 (o_pos x3.1.tk (o_bind y1 (o_neg one0 (o_pos y3.1.tk (o_bind z1 (o_neg one0 (o_pos z3.1.tk (o_bind v1 (o_pos rfl rfl))))))))))), fun K => sm w2 tk1 x2 y2 z2 v2 (nf_sign f3) (o_pos f3 rfl), v3, fcc w3 (F4.trans (v4.mono (fun a k z => by unfold rqP at z; unfold bTP; omega) (fun _ _ z => Or.inl z) (fun _ _ z => z.elim))), fmm (G4.trans (v5.mono (fun a k z => by unfold rqM at z; unfold bTM; omega) (fun _ _ z => Or.inl z) (fun _ _ z => z)))⟩
        · have f3 := z3.2.2
          exact Or.inr ⟨u4, p4, fun K i hi' => cP hi' (o_bind x1 (o_neg one0 (o_pos x3.1.tk (o_bind y1 (o_neg one0 (o_pos y3.1.tk (o_bind z1 (o_pos rfl rfl)))))))), fun K => sm w2 tk1 x2 y2 z2 (nf_needed f3) (nf_sign f3) (o_pos f3 rfl), z3, fcc w3 (F3.trans (z4.mono (fun a k z => by unfold t58 at z; unfold bTP; omega) (fun a k z => by unfold dfJ at z; unfold bTJ; omega) (fun _ _ z => z.elim))), fmm (G3.trans (z5.mono (fun a k z => by unfold m135 at z; unfold bTM; omega) (fun _ _ z => z) (fun _ _ z => z)))⟩
      · have f3 := y3.2.2
        exact Or.inr ⟨u3, p3, fun K i hi' => cP hi' (o_bind x1 (o_neg one0 (o_pos x3.1.tk (o_bind y1 (o_pos rfl rfl))))), fun K => sm w2 tk1 x2 y2 (nf_defaults f3) (nf_needed f3) (nf_sign f3) (o_pos f3 rfl), y3, fcc w3 (F2.trans (y4.mono (fun a k z => by unfold tyP at z; unfold bTP; omega) (fun _ _ z => Or.inl z) (fun _ _ z => z))), fmm (G2.trans (y5.mono (fun a k z => by unfold tyM at z; unfold bTM; omega) (fun _ _ z => Or.inl z) (fun _ _ z => z)))⟩
    · have f3 := x3.2.2
      exact Or.inr ⟨u2, p2, fun K i hi' => cP hi' (o_bind x1 (o_pos rfl rfl)), fun K => sm w2 tk1 x2 (nf_tableType f3) (nf_defaults f3) (nf_needed f3) (nf_sign f3) (o_pos f3 rfl), x3, (fcc w3 F1).trans (FC.tFq x4), FRX.trans (fmm G1) (FMx.q14 x5)⟩
  · have f3 := w3.2.2
    refine Or.inr ⟨u, p, fun K i hi' => ?_, fun K => sm w2 (e_m_takeF f3) (nf_sign f3) (nf_tableType f3) (nf_defaults f3) (nf_needed f3) (nf_sign f3) (o_pos f3 rfl), w3, FC.tFq w4, FMx.q14 w5⟩
    unfold s_p_readTable_17
    exact o_pos P.tk (o_neg kne (o_neg (by (first | (simp (maxSteps := 4000000) (disch := omega) only [n_0, n_1, n_2, n_3, n_4, n_5, n_6, n_7, n_8, n_9, n_10, n_11, n_12, n_13, n_14, n_15, n_16, n_18, n_20, n_24, n_31, n_32, n_34, n_40, n_41, n_44, n_45, n_47, n_48, n_57, n_58, n_59, n_61, n_63, n_64, n_65, n_68, n_90, n_91, n_93, n_95, n_97, n_100, n_122, n_123, n_125, n_128, n_144, n_200, n_255, n_256, n_300, n_400, n_600, n_1536, n_3980, n_4000, n_4001, n_4300, n_65536, l_0, l_1, l_2, l_3, l_4, l_10, l_48, l_63, l_255, l_300, nI_ltI, nI_leI, nI_eq, nI_clamp, nI_add, pk_sub, pk_mul, nI_ne1, ne1_nI, nI_pge, nI_nlt0, nI_l, lN_i, lN_add, lN_mul, lN_sub, pk_lLT, pk_lLE, pk_lEQ, lg_lt, lg_ge, lg_eq0, lg_le, lg_gt, lg_ltn, lg_gen, lg_eq0n, lg_len, lg_gtn, Nat.zero_le, Nat.not_lt_zero, not_false_eq_true, not_true_eq_false, true_and, and_true]; done) | (simp (maxSteps := 4000000) (disch := omega) only [n_0, n_1, n_2, n_3, n_4, n_5, n_6, n_7, n_8, n_9, n_10, n_11, n_12, n_13, n_14, n_15, n_16, n_18, n_20, n_24, n_31, n_32, n_34, n_40, n_41, n_44, n_45, n_47, n_48, n_57, n_58, n_59, n_61, n_63, n_64, n_65, n_68, n_90, n_91, n_93, n_95, n_97, n_100, n_122, n_123, n_125, n_128, n_144, n_200, n_255, n_256, n_300, n_400, n_600, n_1536, n_3980, n_4000, n_4001, n_4300, n_65536, l_0, l_1, l_2, l_3, l_4, l_10, l_48, l_63, l_255, l_300, nI_ltI, nI_leI, nI_eq, nI_clamp, nI_add, pk_sub, pk_mul, nI_ne1, ne1_nI, nI_pge, nI_nlt0, nI_l, lN_i, lN_add, lN_mul, lN_sub, pk_lLT, pk_lLE, pk_lEQ, lg_lt, lg_ge, lg_eq0, lg_le, lg_gt, lg_ltn, lg_gen, lg_eq0n, lg_len, lg_gtn, Nat.zero_le, Nat.not_lt_zero, not_false_eq_true, not_true_eq_false, true_and, and_true]; omega) | omega)) (o_bind rfl (o_bind w1 (o_elimn rfl)))))
end Tb
