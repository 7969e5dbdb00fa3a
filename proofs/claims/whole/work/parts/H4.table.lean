/-! The parsers: a table whole -/

section Tl
variable {T : Nat → Nat} {n c S t nd ns nt nu na es et eu k f : Nat} {g h u p : XH}
theorem TB.pos {k' : Nat} (A : TB T n c S t nd ns nt nu na es et eu k f g h) (q : ST T n c u p t S k') (F : FRM (tP t) g u) (G : FRM m13 h p) : TB T n c S t nd ns nt nu na es et eu k' f u p := by
  obtain ⟨ST0, B, N, Lh, e3, e92, heu⟩ := A
  have t17 := ST0.1.2.1
  have S1 := ST0.1.2.2.2.1
  have n8 : nt < 16 := by have := B.2.2.2.2.2.2.2.2.2.2.2; omega
  exact ⟨q, B.pos ST0.1.1 t17 F (m13_c G), N.pos S1 t17 F G, (FMx.q13 G).ly Lh, by rw [F.at (by unfold tP dT; omega)]; exact e3, by rw [G.at (by simp [m13])]; exact e92, heu⟩
theorem BG.addTD (A : BG T n c S t nd ns 0 nt f nu 0 na es et eu 0 g h) (f16 : f ≤ 16) (he : et = nt + 1) (e1 : hi g (dT S nt) 3 = nI f) (e2 : hi h 1283 nt = nI f) : BG T n c S t nd ns 0 (nt + 1) 0 nu 0 na es et eu 0 g h := by
  obtain ⟨M, K, D, SS, SC', TT, TC, UU, UC, E, I, ⟨l1, l2, l3, l4, l5, l6, l7, l8, l9, l10, l11, l12, l13, l14⟩⟩ := A
  refine ⟨M, K, D, SS, SC', fun s hs => ?_, fun j hj' => absurd hj' (Nat.not_lt_zero j), UU, UC, fun i h1 h2 => ?_, I, ⟨l1, l2, l3, by omega, by omega, l6, l7, l8, l9, l10, by omega, l12, Or.inl rfl, l14⟩⟩
  · by_cases cs : s = nt
    · rw [cs]
      exact ⟨f, f16, e1, e2, TC⟩
    · exact TT s (by omega)
  · obtain ⟨a, k, w, x, a1, a2, a3, a4, a5, a6, a7, a9⟩ := E i h1 h2
    exact ⟨a, k, w, x, a1, a2, a3, a4, a5, a6, a7, a9.imp (fun ⟨s, f, q1, q2⟩ => ⟨s, f, by omega, q2⟩) id⟩
theorem tableEnd (A : TB T n c S t nd ns nt nu na es et eu k f g h) (f16 : f ≤ 16) : OUT T n c S t nd ns (nt + 1) nu na es et eu 0 g h (b_p_readTable_93 t g) (b_m_tableBody_123 h) := by
  have A' := A
  obtain ⟨ST0, B, N, Lh, e3, e92, heu⟩ := A'
  have t17 := ST0.1.2.1
  have S1 := ST0.1.2.2.2.1
  rcases exp2 (x := 125) ST0 (by decide) with ⟨u, p, x1, x2, x3, x4, x5⟩ | ⟨u, p, x1, x2, x3, x4, x5⟩
  · obtain ⟨y1, y2, y3, y4, y5, y6, y7⟩ := A.pos x3 x4 x5
    obtain ⟨n1, n2, n3, n4, n5, n6, n7, n8, n9, n10⟩ := y3
    obtain ⟨p2, e2⟩ : ∃ p2, p2 = hsi p 1262 31 (nI (nt + 1)) := ⟨_, rfl⟩
    have Gx : FRX xM nJ nW p p2 := by rw [e2]; exact FRX.refl.si (by simp [xM])
    have G2 : FRX m13c sJ nW h p2 := by rw [e2]; exact (m13_c x5).si (by simp [m13c])
    have pm : ∀ k, k ≠ 31 → hi p2 1262 k = hi p 1262 k := fun k hk' => by rw [e2, hi_nk hk']
    have FM2 : FMx h p2 := m13c_M G2
    refine Or.inl ⟨u, p2, k + 1, ?_, ?_, x3.con FRX.refl Gx, (B.pos ST0.1.1 t17 x4 G2).addTD f16 heu y5 (by rw [e2, hi_hsi_ne (by decide)]; exact y6), ⟨n1, ?_, n3, n4, n5, ?_, ?_, ?_, n9, ?_⟩, FM2.ly Lh, FC.tPq x4, FM2⟩
    · unfold b_p_readTable_93
      exact o_pos ST0.1.tk (o_bind x1 (o_pos (Or.inr rfl) rfl))
    · unfold b_m_tableBody_123
      refine o_bind x2 ?_
      show some ((), hsi p 1262 31 (hi p 1262 31 + 1)) = _
      rw [n7, n_1, nI_add, e2]
    · rw [pm 16 (by decide)]; exact n2
    · rw [pm 20 (by decide)]; exact n6
    · rw [e2, hi_at]
    · rw [pm 41 (by decide)]; exact n8
    · rw [pm 46 (by decide)]; exact n10
  · refine Or.inr ⟨u, _, ?_, o_bind x2 rfl, x3.up (x := 31) (w := hi p 1262 31 + 1) (by decide), FC.tFq x4, FRX.si (FMx.q14 x5) (by simp [nM])⟩
    unfold b_p_readTable_93
    exact o_pos ST0.1.tk (o_bind x1 (o_pos (Or.inl rfl) rfl))
theorem nf_tb12 {F : Nat} {x1 : Int32} (m : ¬ hi p 1262 14 = 0) : b_m_tableBody_12 (F + 1) x1 p = some ((), hsi p 1262 31 (hi p 1262 31 + 1)) := by
  have e : b_m_tableBody_123 p = some ((), hsi p 1262 31 (hi p 1262 31 + 1)) := by
    unfold b_m_tableBody_123
    exact o_bind (nf_sign m) rfl
  show s_m_tableBody_12 (b_m_tableBody_12 F) _ _ = _
  unfold s_m_tableBody_12
  exact o_pos m e
theorem tableLoop : ∀ (m f i fuel F k na : Nat) (g h : XH), f + m = 16 → i ≤ f → m + 2 ≤ fuel → m + 2 ≤ F → TB T n c S t nd ns nt nu na es et eu k f g h → ∃ na', OUT T n c S t nd ns (nt + 1) nu na' es et eu 0 g h (b_p_readTable_17 fuel t (some (dT S nt)) (nI i) g) (b_m_tableBody_12 F (nI nt) h) := by
  intro m
  induction m with
  | zero =>
    intro f i fuel F k na g h e fi hF1 hF2 A
    obtain ⟨fu1, rfl, -⟩ := fuel_pos (show 0 < fuel by omega)
    obtain ⟨F1, rfl, -⟩ := fuel_pos (show 0 < F by omega)
    obtain ⟨F2, rfl, -⟩ := fuel_pos (show 0 < F1 by omega)
    have ST0 := A.1
    obtain ⟨P, K, kc', a5, a6, m13', m14'⟩ := A.1
    rcases e_m_isSign (x := 125) ST0 (by decide) with ⟨q1, q2⟩ | ⟨q1, q2⟩
    · have c1 : b_p_readTable_17 (fu1 + 1) t (some (dT S nt)) (nI i) g = b_p_readTable_93 t g := by
        show s_p_readTable_17 (b_p_readTable_17 fu1) _ _ _ _ = _
        unfold s_p_readTable_17
        exact o_pos P.tk (o_pos (by rw [a6]; exact q1) rfl)
      have c2 : b_m_tableBody_12 (F2 + 1 + 1) (nI nt) h = b_m_tableBody_123 h := by
        show s_m_tableBody_12 (b_m_tableBody_12 (F2 + 1)) _ _ = _
        unfold s_m_tableBody_12
        exact o_neg (not_not_intro m14') (o_bind q2 (o_pos one0 rfl))
      rw [c1, c2]
      exact ⟨na, tableEnd A (by omega)⟩
    · rcases tableTurn A (by omega) q1 with ⟨u, p, k', na', w1, w2, w3, w4, w5, w6⟩ | ⟨u, p, w1, w2, w3, w4, w5⟩
      · omega
      · exact ⟨na, Or.inr ⟨u, hsi p 1262 31 (hi p 1262 31 + 1), w1 _ i (by omega), (w2 _).trans (nf_tb12 w3.2.2), w3.up (by decide), w4, FRX.si w5 (by simp [nM])⟩⟩
  | succ m ih =>
    intro f i fuel F k na g h e fi hF1 hF2 A
    obtain ⟨fu1, rfl, -⟩ := fuel_pos (show 0 < fuel by omega)
    obtain ⟨F1, rfl, -⟩ := fuel_pos (show 0 < F by omega)
    obtain ⟨F2, rfl, -⟩ := fuel_pos (show 0 < F1 by omega)
    have ST0 := A.1
    obtain ⟨P, K, kc', a5, a6, m13', m14'⟩ := A.1
    rcases e_m_isSign (x := 125) ST0 (by decide) with ⟨q1, q2⟩ | ⟨q1, q2⟩
    · have c1 : b_p_readTable_17 (fu1 + 1) t (some (dT S nt)) (nI i) g = b_p_readTable_93 t g := by
        show s_p_readTable_17 (b_p_readTable_17 fu1) _ _ _ _ = _
        unfold s_p_readTable_17
        exact o_pos P.tk (o_pos (by rw [a6]; exact q1) rfl)
      have c2 : b_m_tableBody_12 (F2 + 1 + 1) (nI nt) h = b_m_tableBody_123 h := by
        show s_m_tableBody_12 (b_m_tableBody_12 (F2 + 1)) _ _ = _
        unfold s_m_tableBody_12
        exact o_neg (not_not_intro m14') (o_bind q2 (o_pos one0 rfl))
      rw [c1, c2]
      exact ⟨na, tableEnd A (by omega)⟩
    · rcases tableTurn A (by omega) q1 with ⟨u, p, k', na', w1, w2, w3, w4, w5, w6⟩ | ⟨u, p, w1, w2, w3, w4, w5⟩
      · obtain ⟨na2, r⟩ := ih (f + 1) (i + 1) fu1 (F2 + 1) k' na' u p (by omega) (by omega) (by omega) (by omega) w3
        have c1 : b_p_readTable_17 (fu1 + 1) t (some (dT S nt)) (nI i) g = b_p_readTable_17 fu1 t (some (dT S nt)) (nI (i + 1)) u := w1 _ i (by omega)
        have c2 : b_m_tableBody_12 (F2 + 1 + 1) (nI nt) h = b_m_tableBody_12 (F2 + 1) (nI nt) p := w2 _
        rw [c1, c2]
        exact ⟨na2, r.pre w5 w6⟩
      · exact ⟨na, Or.inr ⟨u, hsi p 1262 31 (hi p 1262 31 + 1), w1 _ i (by omega), (w2 _).trans (nf_tb12 w3.2.2), w3.up (by decide), w4, FRX.si w5 (by simp [nM])⟩⟩
/-- a table behind its name -/
theorem table2 (A : ST T n c g h t S k) (B : BG T n c S t nd ns 0 nt 0 nu 0 na es et eu 0 g h) (N : CN S t nd ns nt nu na es et eu g h) (Lh : LY h) (het : et = nt + 1) (e : hi g (dT S nt) 3 = 0) : ∃ na', OUT T n c S t nd ns (nt + 1) nu na' es et eu 0 g h (f_p_readTable t (some (dT S nt)) g) (Option.bind (f_m_sign 123 h) fun r5 => Option.bind (f_m_tableBody r5.2) fun r16 => some ((), r16.2)) := by
  have n16 : nt < 16 := by have := B.2.2.2.2.2.2.2.2.2.2.2; omega
  have t17 := A.1.2.1
  have S1 := A.1.2.2.2.1
  have n31 : hi h 1262 31 = nI nt := N.2.2.2.2.2.2.1
  have bd : ∀ {p q : XH} {X : Option (Unit × XH)}, hi p 1262 31 = nI nt → q = hsi p 1283 nt 0 → b_m_tableBody_12 100000 (nI nt) q = X → f_m_tableBody p = X := by
    intro p q X r1 r2 r3
    unfold f_m_tableBody
    rw [r1, nI_clamp (show nt < 2 ^ 31 by omega), ← r2]
    exact o_pos (by (first | (simp (maxSteps := 4000000) (disch := omega) only [n_0, n_1, n_2, n_3, n_4, n_5, n_6, n_7, n_8, n_9, n_10, n_11, n_12, n_13, n_14, n_15, n_16, n_18, n_20, n_24, n_31, n_32, n_34, n_40, n_41, n_44, n_45, n_47, n_48, n_57, n_58, n_59, n_61, n_63, n_64, n_65, n_68, n_90, n_91, n_93, n_95, n_97, n_100, n_122, n_123, n_125, n_128, n_144, n_200, n_255, n_256, n_300, n_400, n_600, n_1536, n_3980, n_4000, n_4001, n_4300, n_65536, l_0, l_1, l_2, l_3, l_4, l_10, l_48, l_63, l_255, l_300, nI_ltI, nI_leI, nI_eq, nI_clamp, nI_add, pk_sub, pk_mul, nI_ne1, ne1_nI, nI_pge, nI_nlt0, nI_l, lN_i, lN_add, lN_mul, lN_sub, pk_lLT, pk_lLE, pk_lEQ, lg_lt, lg_ge, lg_eq0, lg_le, lg_gt, lg_ltn, lg_gen, lg_eq0n, lg_len, lg_gtn, Nat.zero_le, Nat.not_lt_zero, not_false_eq_true, not_true_eq_false, true_and, and_true]; done) | (simp (maxSteps := 4000000) (disch := omega) only [n_0, n_1, n_2, n_3, n_4, n_5, n_6, n_7, n_8, n_9, n_10, n_11, n_12, n_13, n_14, n_15, n_16, n_18, n_20, n_24, n_31, n_32, n_34, n_40, n_41, n_44, n_45, n_47, n_48, n_57, n_58, n_59, n_61, n_63, n_64, n_65, n_68, n_90, n_91, n_93, n_95, n_97, n_100, n_122, n_123, n_125, n_128, n_144, n_200, n_255, n_256, n_300, n_400, n_600, n_1536, n_3980, n_4000, n_4001, n_4300, n_65536, l_0, l_1, l_2, l_3, l_4, l_10, l_48, l_63, l_255, l_300, nI_ltI, nI_leI, nI_eq, nI_clamp, nI_add, pk_sub, pk_mul, nI_ne1, ne1_nI, nI_pge, nI_nlt0, nI_l, lN_i, lN_add, lN_mul, lN_sub, pk_lLT, pk_lLE, pk_lEQ, lg_lt, lg_ge, lg_eq0, lg_le, lg_gt, lg_ltn, lg_gen, lg_eq0n, lg_len, lg_gtn, Nat.zero_le, Nat.not_lt_zero, not_false_eq_true, not_true_eq_false, true_and, and_true]; omega) | omega)) r3
  rcases exp2 (x := 123) A (by decide) with ⟨u, p, x1, x2, x3, x4, x5⟩ | ⟨u, p, x1, x2, x3, x4, x5⟩
  · obtain ⟨q, eq⟩ : ∃ q, q = hsi p 1283 nt 0 := ⟨_, rfl⟩
    have m31 : hi p 1262 31 = nI nt := by rw [x5.at (by simp [m13])]; exact n31
    have F1 : FRX (bTP S t nt 0) (bTJ S nt 0) (tyW t na) g u := x4.x (fun a k z => by unfold tP at z; unfold bTP; omega) (fun k => Or.inl rfl)
    have G1 : FRX (bTM nt 0 na) (bTL nt 0) nW h q := by
      rw [eq]
      exact (x5.x (P2 := bTM nt 0 na) (J2 := bTL nt 0) (W2 := nW) (fun a k z => by unfold m13 at z; unfold bTM; omega) (fun k => Or.inl rfl)).si (by simp [bTM])
    have Gx : FRX xM nJ nW p q := by rw [eq]; exact FRX.refl.si (by simp [xM])
    have dr : S + 197 ≤ dT S nt ∧ dT S nt + 20 ≤ S + 517 := by unfold dT; omega
    have B1 := B.fr A.1.1 t17 (F1.mono (fun a k z => bTP_y n16 (by omega) z) (fun a k z => bTJ_y n16 (by omega) z) (fun _ _ z => Or.inr ⟨z.1, by rw [z.2]; exact Nat.le_refl _⟩)) (G1.mono (fun a k z => bTM_z z) (fun a k z => bTL_z z) (fun _ _ z => z))
    have N1 : CN S t nd ns nt nu na es et eu u q := by
      have N0 := N.pos S1 t17 x4 x5
      rw [eq]
      exact N0.fr (FRX.refl (P := nW) (J := nW) (W := nW)) (FRX.si (P := fun a _ => a = 1283) (J := nW) (W := nW) FRX.refl rfl) ⟨id, id, id, id, id⟩ ⟨by decide, by decide, by decide, by decide, by decide⟩
    have FC1 : FC S t g u := FC.tPq x4
    have FM1 : FMx h q := G1.mono (fun a k z => zP_m (bTM_z (nd := nd) (ns := ns) (nu := nu) z)) (fun a k z => zJ_m (bTL_z z)) (fun _ _ z => z)
    have TB0 : TB T n c S t nd ns nt nu na es et eu (k + 1) 0 u q := ⟨x3.con FRX.refl Gx, B1, N1, FM1.ly Lh, by rw [x4.at (by unfold tP; omega), e]; rfl, by rw [eq, hi_at]; rfl, het⟩
    obtain ⟨na', r⟩ := tableLoop 16 0 0 100000 100000 (k + 1) na u q (by omega) (by omega) (by omega) (by omega) TB0
    have c1 : f_p_readTable t (some (dT S nt)) g = b_p_readTable_17 100000 t (some (dT S nt)) (nI 0) u := by
      unfold f_p_readTable
      exact o_elim (o_pos A.1.tk (o_bind x1 (o_pos one0 rfl)))
    rw [c1]
    refine ⟨na', ?_⟩
    rcases r with ⟨u', p', k'', r1, r2, r3, r4, r5, r6, r7, r8⟩ | ⟨u', p', r1, r2, r3, r4, r5⟩
    · exact Or.inl ⟨u', p', k'', r1, o_bind x2 (o_bind (bd m31 eq r2) rfl), r3, r4, r5, r6, FC1.trans r7, FRX.trans FM1 r8⟩
    · exact Or.inr ⟨u', p', r1, o_bind x2 (o_bind (bd m31 eq r2) rfl), r3, FC1.trans r4, FRX.trans FM1 r5⟩
  · have m31 : hi p 1262 31 = nI nt := by rw [x5.at (by simp [m14])]; exact n31
    obtain ⟨q, eq⟩ : ∃ q, q = hsi p 1283 nt 0 := ⟨_, rfl⟩
    have q62 : hi q 1262 = hi p 1262 := by rw [eq, hi_hsi_ne (by decide)]
    have fq : FLT u q t := by unfold FLT; rw [q62]; exact x3
    have G1 : FMx h q := by
      rw [eq]
      exact FRX.si (FMx.q14 x5) (by simp [nM])
    refine ⟨na, Or.inr ⟨u, hsi q 1262 31 (hi q 1262 31 + 1), ?_, o_bind x2 (o_bind (bd m31 eq (nf_tb12 fq.2.2)) rfl), fq.up (by decide), FC.tFq x4, FRX.si G1 (by simp [nM])⟩⟩
    unfold f_p_readTable
    exact o_elim (o_pos A.1.tk (o_bind x1 (o_neg (not_not_intro rfl) rfl)))
end Tl
