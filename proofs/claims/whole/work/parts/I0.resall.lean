/-! The parsers: all names resolved -/

def RZ (T : Nat → Nat) (n c S t nd ns nt nu na k kr lo : Nat) (g h : XH) : Prop := ST T n c g h t S k ∧ BG T n c S t nd ns 0 nt 0 nu 0 na ns nt nu lo g h ∧ CN S t nd ns nt nu (na + 1) ns nt nu g h ∧ LY h ∧ RTQ t c na kr g h
section Rz
variable {T : Nat → Nat} {n c t S k nd ns nt nu na kr lo lo' a x : Nat} {g h u p : XH}
theorem TF.z {es et eu j : Nat} (A : TF c t es et eu lo na g h a j) (q : hi g a 3 = -1 ∨ hi g a 3 = 5) : hj h 1291 j = 0 := by
  obtain ⟨-, -, -, o⟩ := A
  rcases o with ⟨so, o, e, ⟨o1, -⟩, -, o3, o4⟩ | ⟨o, -⟩
  · refine o3 fun z => ?_
    rw [o1, z] at q
    exact absurd q (by decide)
  · exact o
def reA (a' _k : Nat) : Prop := (1286 ≤ a' ∧ a' ≤ 1288) ∨ a' = 1294
theorem RZ.step {lo' : Nat} (A : RZ T n c S t nd ns nt nu na k kr lo g h) (F : FRX (reP a) nW nW g u) (G : FRX reA nW nW h p) (ra : S + 197 ≤ a ∧ a < S + 615) (B : BG T n c S t nd ns 0 nt 0 nu 0 na ns nt nu lo' u p) : RZ T n c S t nd ns nt nu na k kr lo' u p ∧ FC S t g u ∧ FMx h p := by
  obtain ⟨ST0, -, N, Lh, R⟩ := A
  have t17 := ST0.1.2.1
  have hS := ST0.1.2.2.2.1
  have Gx : FRX xM nJ nW h p := G.mono (fun a k z => by unfold reA at z; unfold xM; omega) (fun _ _ z => z.elim) (fun _ _ z => z)
  have Gm : FMx h p := G.mono (fun a k z => by unfold reA at z; unfold nM; omega) (fun _ _ z => z.elim) (fun _ _ z => z)
  refine ⟨⟨ST0.con (F.mono (fun a' k z => by unfold reP at z; unfold xP; omega) (fun _ _ z => z.elim) (fun _ _ z => z.elim)) Gx, B, N.fr F G ⟨by unfold reP; omega, by unfold reP; omega, by unfold reP; omega, by unfold reP; omega, by unfold reP; omega⟩ ⟨by unfold reA; omega, by unfold reA; omega, by unfold reA; omega, by unfold reA; omega, by unfold reA; omega⟩, Gm.ly Lh, ?_⟩, F.mono (fun a' k z => by unfold reP at z; exact Or.inr ⟨Or.inl (by omega), by omega, by omega⟩) (fun _ _ z => z.elim) (fun _ _ z => z.elim), Gm⟩
  obtain ⟨r1, r2, r3, r4, r5, r6, r7⟩ := R
  exact ⟨by rw [F.rf (fun z => z)]; exact r1, by rw [F.at (by unfold reP; omega)]; exact r2, by rw [F.at (by unfold reP; omega)]; exact r3, r4, by rw [F.at (by unfold reP; omega)]; exact r5, by rw [G.at (by unfold reA; omega)]; exact r6, by rw [G.at (by unfold reA; omega)]; exact r7⟩
theorem resFault {kk : Nat} (A : ST T n c g h t S k) (hk' : kk < c) : FLT (hsi (hsi g t 7 5) t 8 (hi g 9 kk)) (hsi (hsi h 1262 14 5) 1262 15 (hi h 1267 kk)) t ∧ FRM (tF t) g (hsi (hsi g t 7 5) t 8 (hi g 9 kk)) ∧ FRM m14 h (hsi (hsi h 1262 14 5) 1262 15 (hi h 1267 kk)) := by
  refine ⟨⟨?_, ?_, ?_⟩, (FRM.refl.si (by simp [tF])).si (by simp [tF]), (FRM.refl.si (by simp [m14])).si (by simp [m14])⟩
  · rw [hi_nk (by decide), hi_at, hi_nk (by decide), hi_at]
  · rw [hi_at, hi_at]; exact (A.2.1.2.2.2.2.1 kk hk').at
  · rw [hi_nk (by decide), hi_at]; decide
theorem resTurn (A : RZ T n c S t nd ns nt nu na k kr lo g h) (hlo : lo < na) : ∃ a, hr g (t + 1) lo = some a ∧ ((∃ u p, f_p_resolve t a g = some (1, u) ∧ (∀ K, s_m_resolve_2 K (nI lo) h = K (nI (lo + 1)) p) ∧ RZ T n c S t nd ns nt nu na k kr (lo + 1) u p ∧ FC S t g u ∧ FMx h p) ∨ (∃ u p, f_p_resolve t a g = some (0, u) ∧ (∀ K, s_m_resolve_2 K (nI lo) h = K (nI (lo + 1)) p) ∧ FLT u p t ∧ FRM (tF t) g u ∧ FRM m14 h p)) := by
  have A' := A
  obtain ⟨ST0, B, N, Lh, R⟩ := A'
  have B0 := B
  obtain ⟨M0, KC', D, -, -, -, -, -, -, E, -, ⟨l1, l2, l3, l4, l5, l6, l7, l8, l9, l10, l11, l12, l13, l14⟩⟩ := B0
  have L := ST0.1.1
  have t17 := ST0.1.2.1
  have hS := ST0.1.2.2.2.1
  have sc := SC.of L hS
  have K := ST0.2.1
  have c4 := K.2.2.2.1
  have m14' := ST0.2.2.2.2.2.2
  obtain ⟨a, kk, w, x, a1, a2, a3, a4, a5, a6, a7, a9⟩ := E lo (Nat.le_refl _) hlo
  refine ⟨a, a1, ?_⟩
  have ak : a < hz g ∧ hk g a = 3 := by
    rcases a9 with ⟨s, f, q1, q2, q3, q4, -⟩ | ⟨s, f, q1, q2, q3, q4, -⟩
    · have d := sc.ddT (s := s) q2
      rw [q4]
      exact ⟨by have := d.1; omega, (d.2.2.2.2.2.2.2.2.1 f q3).2⟩
    · have d := sc.ddU (s := s) q2
      rw [q4]
      exact ⟨by have := d.1; omega, (d.2.2.2.2.2.2.2.2.1 f q3).2⟩
  have cs : (w = 0 ∧ hi g a 3 = -1) ∨ (w = 1 ∧ hi g a 3 = 5) ∨ (w = 2 ∧ hi g a 3 = 3) := by
    rcases a9 with ⟨s, f, q1, q2, q3, q4, q5, ⟨q6, q7, -⟩ | ⟨q6, q7, -⟩⟩ | ⟨s, f, q1, q2, q3, q4, q5, q6, q7⟩
    · exact Or.inl ⟨q6, q7⟩
    · exact Or.inr (Or.inl ⟨q6, q7⟩)
    · exact Or.inr (Or.inr ⟨q6, q7⟩)
  have w2 : w ≤ 2 := by omega
  have lk : 0 ≤ nI lo ∧ nI lo < nI 400 := ⟨nI_pos' (by omega), by (first | (simp (maxSteps := 4000000) (disch := omega) only [n_0, n_1, n_2, n_3, n_4, n_5, n_6, n_7, n_8, n_9, n_10, n_11, n_12, n_13, n_14, n_15, n_16, n_18, n_20, n_24, n_31, n_32, n_34, n_40, n_41, n_44, n_45, n_47, n_48, n_57, n_58, n_59, n_61, n_63, n_64, n_65, n_68, n_90, n_91, n_93, n_95, n_97, n_100, n_122, n_123, n_125, n_128, n_144, n_200, n_255, n_256, n_300, n_400, n_600, n_1536, n_3980, n_4000, n_4001, n_4300, n_65536, l_0, l_1, l_2, l_3, l_4, l_10, l_48, l_63, l_255, l_300, nI_ltI, nI_leI, nI_eq, nI_clamp, nI_add, pk_sub, pk_mul, nI_ne1, ne1_nI, nI_pge, nI_nlt0, nI_l, lN_i, lN_add, lN_mul, lN_sub, pk_lLT, pk_lLE, pk_lEQ, lg_lt, lg_ge, lg_eq0, lg_le, lg_gt, lg_ltn, lg_gen, lg_eq0n, lg_len, lg_gtn, Nat.zero_le, Nat.not_lt_zero, not_false_eq_true, not_true_eq_false, true_and, and_true]; done) | (simp (maxSteps := 4000000) (disch := omega) only [n_0, n_1, n_2, n_3, n_4, n_5, n_6, n_7, n_8, n_9, n_10, n_11, n_12, n_13, n_14, n_15, n_16, n_18, n_20, n_24, n_31, n_32, n_34, n_40, n_41, n_44, n_45, n_47, n_48, n_57, n_58, n_59, n_61, n_63, n_64, n_65, n_68, n_90, n_91, n_93, n_95, n_97, n_100, n_122, n_123, n_125, n_128, n_144, n_200, n_255, n_256, n_300, n_400, n_600, n_1536, n_3980, n_4000, n_4001, n_4300, n_65536, l_0, l_1, l_2, l_3, l_4, l_10, l_48, l_63, l_255, l_300, nI_ltI, nI_leI, nI_eq, nI_clamp, nI_add, pk_sub, pk_mul, nI_ne1, ne1_nI, nI_pge, nI_nlt0, nI_l, lN_i, lN_add, lN_mul, lN_sub, pk_lLT, pk_lLE, pk_lEQ, lg_lt, lg_ge, lg_eq0, lg_le, lg_gt, lg_ltn, lg_gen, lg_eq0n, lg_len, lg_gtn, Nat.zero_le, Nat.not_lt_zero, not_false_eq_true, not_true_eq_false, true_and, and_true]; omega) | omega)⟩
  have cl : (nI lo).toNatClampNeg = lo := nI_clamp (by omega)
  rcases resolve_c (w := w) ST0.1 K M0 KC' l3 l6 l9 l10 D N.1 N.2.1 ak a2 a4 a5 cs with ⟨d, ad, so, no, d1, d2, d3, d4, d5, ok, r⟩ | ⟨df, r⟩
  · have so4 : so = 2 ∨ so = 3 ∨ so = 4 := by unfold DA at d2; omega
    have dk : 0 ≤ nI d ∧ nI d < nI 40 := ⟨nI_pos' (by omega), by (first | (simp (maxSteps := 4000000) (disch := omega) only [n_0, n_1, n_2, n_3, n_4, n_5, n_6, n_7, n_8, n_9, n_10, n_11, n_12, n_13, n_14, n_15, n_16, n_18, n_20, n_24, n_31, n_32, n_34, n_40, n_41, n_44, n_45, n_47, n_48, n_57, n_58, n_59, n_61, n_63, n_64, n_65, n_68, n_90, n_91, n_93, n_95, n_97, n_100, n_122, n_123, n_125, n_128, n_144, n_200, n_255, n_256, n_300, n_400, n_600, n_1536, n_3980, n_4000, n_4001, n_4300, n_65536, l_0, l_1, l_2, l_3, l_4, l_10, l_48, l_63, l_255, l_300, nI_ltI, nI_leI, nI_eq, nI_clamp, nI_add, pk_sub, pk_mul, nI_ne1, ne1_nI, nI_pge, nI_nlt0, nI_l, lN_i, lN_add, lN_mul, lN_sub, pk_lLT, pk_lLE, pk_lEQ, lg_lt, lg_ge, lg_eq0, lg_le, lg_gt, lg_ltn, lg_gen, lg_eq0n, lg_len, lg_gtn, Nat.zero_le, Nat.not_lt_zero, not_false_eq_true, not_true_eq_false, true_and, and_true]; done) | (simp (maxSteps := 4000000) (disch := omega) only [n_0, n_1, n_2, n_3, n_4, n_5, n_6, n_7, n_8, n_9, n_10, n_11, n_12, n_13, n_14, n_15, n_16, n_18, n_20, n_24, n_31, n_32, n_34, n_40, n_41, n_44, n_45, n_47, n_48, n_57, n_58, n_59, n_61, n_63, n_64, n_65, n_68, n_90, n_91, n_93, n_95, n_97, n_100, n_122, n_123, n_125, n_128, n_144, n_200, n_255, n_256, n_300, n_400, n_600, n_1536, n_3980, n_4000, n_4001, n_4300, n_65536, l_0, l_1, l_2, l_3, l_4, l_10, l_48, l_63, l_255, l_300, nI_ltI, nI_leI, nI_eq, nI_clamp, nI_add, pk_sub, pk_mul, nI_ne1, ne1_nI, nI_pge, nI_nlt0, nI_l, lN_i, lN_add, lN_mul, lN_sub, pk_lLT, pk_lLE, pk_lEQ, lg_lt, lg_ge, lg_eq0, lg_le, lg_gt, lg_ltn, lg_gen, lg_eq0n, lg_len, lg_gtn, Nat.zero_le, Nat.not_lt_zero, not_false_eq_true, not_true_eq_false, true_and, and_true]; omega) | omega)⟩
    have cd : (nI d).toNatClampNeg = d := nI_clamp (by omega)
    have mk : ∀ K, s_m_resolve_2 K (nI lo) h = b_m_resolve_77 K (nI lo) (nI d) 1 h := fun K => resolve_m_ok (m := na + 1) m14' N.2.2.2.2.2.2.2.2.2 (by omega) (by omega) a3 a6 w2 d3 (by omega) d4 (by omega) ok
    refine Or.inl ?_
    rcases a9 with ⟨s, f, q1, q2, q3, q4, q5, q6⟩ | ⟨s, f, q1, q2, q3, q4, q5, q6, q7⟩
    · have hs : s < nt := by omega
      have ra : S + 197 ≤ a ∧ a < S + 615 := by unfold dT at q4; omega
      have x256 : x < 256 := by omega
      have cx : (nI x).toNatClampNeg = x := nI_clamp (by omega)
      have xk : 0 ≤ nI x ∧ nI x < nI 256 := ⟨nI_pos' (by omega), by (first | (simp (maxSteps := 4000000) (disch := omega) only [n_0, n_1, n_2, n_3, n_4, n_5, n_6, n_7, n_8, n_9, n_10, n_11, n_12, n_13, n_14, n_15, n_16, n_18, n_20, n_24, n_31, n_32, n_34, n_40, n_41, n_44, n_45, n_47, n_48, n_57, n_58, n_59, n_61, n_63, n_64, n_65, n_68, n_90, n_91, n_93, n_95, n_97, n_100, n_122, n_123, n_125, n_128, n_144, n_200, n_255, n_256, n_300, n_400, n_600, n_1536, n_3980, n_4000, n_4001, n_4300, n_65536, l_0, l_1, l_2, l_3, l_4, l_10, l_48, l_63, l_255, l_300, nI_ltI, nI_leI, nI_eq, nI_clamp, nI_add, pk_sub, pk_mul, nI_ne1, ne1_nI, nI_pge, nI_nlt0, nI_l, lN_i, lN_add, lN_mul, lN_sub, pk_lLT, pk_lLE, pk_lEQ, lg_lt, lg_ge, lg_eq0, lg_le, lg_gt, lg_ltn, lg_gen, lg_eq0n, lg_len, lg_gtn, Nat.zero_le, Nat.not_lt_zero, not_false_eq_true, not_true_eq_false, true_and, and_true]; done) | (simp (maxSteps := 4000000) (disch := omega) only [n_0, n_1, n_2, n_3, n_4, n_5, n_6, n_7, n_8, n_9, n_10, n_11, n_12, n_13, n_14, n_15, n_16, n_18, n_20, n_24, n_31, n_32, n_34, n_40, n_41, n_44, n_45, n_47, n_48, n_57, n_58, n_59, n_61, n_63, n_64, n_65, n_68, n_90, n_91, n_93, n_95, n_97, n_100, n_122, n_123, n_125, n_128, n_144, n_200, n_255, n_256, n_300, n_400, n_600, n_1536, n_3980, n_4000, n_4001, n_4300, n_65536, l_0, l_1, l_2, l_3, l_4, l_10, l_48, l_63, l_255, l_300, nI_ltI, nI_leI, nI_eq, nI_clamp, nI_add, pk_sub, pk_mul, nI_ne1, ne1_nI, nI_pge, nI_nlt0, nI_l, lN_i, lN_add, lN_mul, lN_sub, pk_lLT, pk_lLE, pk_lEQ, lg_lt, lg_ge, lg_eq0, lg_le, lg_gt, lg_ltn, lg_gen, lg_eq0n, lg_len, lg_gtn, Nat.zero_le, Nat.not_lt_zero, not_false_eq_true, not_true_eq_false, true_and, and_true]; omega) | omega)⟩
      by_cases w1 : w = 1
      · have e5 : hi g a 3 = 5 ∧ hi h 1286 x = 5 := by
          rcases q6 with ⟨z, -⟩ | ⟨z, z1, z2⟩
          · omega
          · exact ⟨z1, z2⟩
        obtain ⟨u, eu⟩ : ∃ u, u = hsi (hsi g a 4 (nI no)) a 5 (nI so) := ⟨_, rfl⟩
        obtain ⟨p, ep⟩ : ∃ p, p = hsi (hsi h 1287 x (nI no)) 1288 x (nI so) := ⟨_, rfl⟩
        have F : FRX (reP a) nW nW g u := by rw [eu]; exact (FRX.refl.si ⟨rfl, by decide, by decide⟩).si ⟨rfl, by decide, by decide⟩
        have G : FRX (reM x) nW nW h p := by rw [ep]; exact (FRX.refl.si ⟨by decide, by decide, rfl⟩).si ⟨by decide, by decide, rfl⟩
        have kn : TF c t ns nt nu lo na g h a x → TFk ns nt nu u p a x := by
          intro o
          have z := o.z (Or.inr e5.1)
          refine ⟨5, no, so + 1, ⟨?_, ?_, ?_⟩, ⟨?_, ?_, ?_⟩, fun _ => by rw [G.lg (fun z => z)]; exact z, Or.inr (Or.inr ⟨by omega, rfl, ?_⟩)⟩
          · rw [eu, hi_nk (by decide), hi_nk (by decide)]; exact e5.1
          · rw [eu, hi_nk (by decide), hi_at]
          · rw [eu, hi_at, ← nI_add, ← n_1]; exact (Int32.add_sub_cancel _ _).symm
          · rw [ep, hi_hsi_ne (by decide), hi_hsi_ne (by decide)]; exact e5.2
          · rw [ep, hi_hsi_ne (by decide), hi_at]
          · rw [ep, hi_at, ← nI_add, ← n_1]; exact (Int32.add_sub_cancel _ _).symm
          · unfold wOK at ok
            unfold DA at d2
            unfold oQ
            omega
        have B1 := B.resT L t17 hlo a1 hs q3 q4 q5 F G kn
        obtain ⟨s1, s2, s3⟩ := A.step F (G.mono (fun _ _ z => Or.inl ⟨z.1, z.2.1⟩) (fun _ _ z => z) (fun _ _ z => z)) ra B1
        rcases r with ⟨-, r⟩ | ⟨r0, -⟩
        · refine ⟨u, p, by rw [eu]; exact r, fun K => (mk K).trans ?_, s1, s2, s3⟩
          unfold b_m_resolve_77 b_m_resolve_218
          rw [cl, cd, a6, a7, cx, d4, d5, n_1, nI_add, ep, w1]
          exact o_pos one0 (o_pos lk (o_pos (by decide) (o_pos dk (o_pos xk (o_neg (by decide) rfl)))))
        · exact absurd w1 r0
      · have w0 : w = 0 := by omega
        have e5 : hi g a 3 = -1 ∧ hi g a 5 = -1 ∧ hi h 1288 x = -1 := by
          rcases q6 with ⟨z, z1, z2, z3⟩ | ⟨z, -⟩
          · exact ⟨z1, z2, z3⟩
          · omega
        obtain ⟨u, eu⟩ : ∃ u, u = hsi (hsi g a 4 (nI no)) a 3 (nI so) := ⟨_, rfl⟩
        obtain ⟨p, ep⟩ : ∃ p, p = hsi (hsi h 1287 x (nI no)) 1286 x (nI so) := ⟨_, rfl⟩
        have F : FRX (reP a) nW nW g u := by rw [eu]; exact (FRX.refl.si ⟨rfl, by decide, by decide⟩).si ⟨rfl, by decide, by decide⟩
        have G : FRX (reM x) nW nW h p := by rw [ep]; exact (FRX.refl.si ⟨by decide, by decide, rfl⟩).si ⟨by decide, by decide, rfl⟩
        have kn : TF c t ns nt nu lo na g h a x → TFk ns nt nu u p a x := by
          intro o
          have z := o.z (Or.inl e5.1)
          refine ⟨so, no, 0, ⟨?_, ?_, ?_⟩, ⟨?_, ?_, ?_⟩, fun _ => by rw [G.lg (fun z => z)]; exact z, ?_⟩
          · rw [eu, hi_at]
          · rw [eu, hi_nk (by decide), hi_at]
          · rw [eu, hi_nk (by decide), hi_nk (by decide), e5.2.1]; rfl
          · rw [ep, hi_at]
          · rw [ep, hi_hsi_ne (by decide), hi_at]
          · rw [ep, hi_hsi_ne (by decide), hi_hsi_ne (by decide), e5.2.2]; rfl
          · unfold DA at d2
            unfold oQ
            omega
        have B1 := B.resT L t17 hlo a1 hs q3 q4 q5 F G kn
        obtain ⟨s1, s2, s3⟩ := A.step F (G.mono (fun _ _ z => Or.inl ⟨z.1, z.2.1⟩) (fun _ _ z => z) (fun _ _ z => z)) ra B1
        rcases r with ⟨r0, -⟩ | ⟨-, r⟩
        · exact absurd r0 w1
        · refine ⟨u, p, by rw [eu]; exact r, fun K => (mk K).trans ?_, s1, s2, s3⟩
          unfold b_m_resolve_77 b_m_resolve_218
          rw [cl, cd, a6, a7, cx, d4, d5, n_1, nI_add, ep, w0]
          exact o_pos one0 (o_pos lk (o_pos (by decide) (o_pos dk (o_pos xk (o_pos (by decide) rfl)))))
    · have hs : s < nu := by omega
      have ra : S + 197 ≤ a ∧ a < S + 615 := by unfold dU at q4; omega
      have x64 : x < 64 := by omega
      have cx : (nI x).toNatClampNeg = x := nI_clamp (by omega)
      have xk : 0 ≤ nI x ∧ nI x < nI 64 := ⟨nI_pos' (by omega), by (first | (simp (maxSteps := 4000000) (disch := omega) only [n_0, n_1, n_2, n_3, n_4, n_5, n_6, n_7, n_8, n_9, n_10, n_11, n_12, n_13, n_14, n_15, n_16, n_18, n_20, n_24, n_31, n_32, n_34, n_40, n_41, n_44, n_45, n_47, n_48, n_57, n_58, n_59, n_61, n_63, n_64, n_65, n_68, n_90, n_91, n_93, n_95, n_97, n_100, n_122, n_123, n_125, n_128, n_144, n_200, n_255, n_256, n_300, n_400, n_600, n_1536, n_3980, n_4000, n_4001, n_4300, n_65536, l_0, l_1, l_2, l_3, l_4, l_10, l_48, l_63, l_255, l_300, nI_ltI, nI_leI, nI_eq, nI_clamp, nI_add, pk_sub, pk_mul, nI_ne1, ne1_nI, nI_pge, nI_nlt0, nI_l, lN_i, lN_add, lN_mul, lN_sub, pk_lLT, pk_lLE, pk_lEQ, lg_lt, lg_ge, lg_eq0, lg_le, lg_gt, lg_ltn, lg_gen, lg_eq0n, lg_len, lg_gtn, Nat.zero_le, Nat.not_lt_zero, not_false_eq_true, not_true_eq_false, true_and, and_true]; done) | (simp (maxSteps := 4000000) (disch := omega) only [n_0, n_1, n_2, n_3, n_4, n_5, n_6, n_7, n_8, n_9, n_10, n_11, n_12, n_13, n_14, n_15, n_16, n_18, n_20, n_24, n_31, n_32, n_34, n_40, n_41, n_44, n_45, n_47, n_48, n_57, n_58, n_59, n_61, n_63, n_64, n_65, n_68, n_90, n_91, n_93, n_95, n_97, n_100, n_122, n_123, n_125, n_128, n_144, n_200, n_255, n_256, n_300, n_400, n_600, n_1536, n_3980, n_4000, n_4001, n_4300, n_65536, l_0, l_1, l_2, l_3, l_4, l_10, l_48, l_63, l_255, l_300, nI_ltI, nI_leI, nI_eq, nI_clamp, nI_add, pk_sub, pk_mul, nI_ne1, ne1_nI, nI_pge, nI_nlt0, nI_l, lN_i, lN_add, lN_mul, lN_sub, pk_lLT, pk_lLE, pk_lEQ, lg_lt, lg_ge, lg_eq0, lg_le, lg_gt, lg_ltn, lg_gen, lg_eq0n, lg_len, lg_gtn, Nat.zero_le, Nat.not_lt_zero, not_false_eq_true, not_true_eq_false, true_and, and_true]; omega) | omega)⟩
      have so3 : so = 3 := by unfold wOK at ok; omega
      have no3 : no < nt := by unfold DA at d2; omega
      obtain ⟨u, eu⟩ : ∃ u, u = hsi (hsi g a 4 (nI no)) a 3 (nI so) := ⟨_, rfl⟩
      obtain ⟨p, ep⟩ : ∃ p, p = hsi h 1294 x (nI no) := ⟨_, rfl⟩
      have F : FRX (reP a) nW nW g u := by rw [eu]; exact (FRX.refl.si ⟨rfl, by decide, by decide⟩).si ⟨rfl, by decide, by decide⟩
      have G : FRX (reU x) nW nW h p := by rw [ep]; exact FRX.refl.si ⟨rfl, rfl⟩
      have B1 := B.resU (o := no) L t17 hlo a1 hs q3 q4 q5 F G ⟨no3, by rw [eu, hi_nk (by decide), hi_at], by rw [ep, hi_at]⟩
      obtain ⟨s1, s2, s3⟩ := A.step F (G.mono (fun _ _ z => Or.inr z.1) (fun _ _ z => z) (fun _ _ z => z)) ra B1
      rcases r with ⟨r0, -⟩ | ⟨-, r⟩
      · omega
      · refine ⟨u, p, by rw [eu]; exact r, fun K => (mk K).trans ?_, s1, s2, s3⟩
        unfold b_m_resolve_77 b_m_resolve_218
        rw [cl, cd, a6, a7, cx, d5, N.2.2.2.2.2.2.2.2.2, q6, ep]
        refine o_pos one0 (o_pos lk (o_neg (by decide) (o_pos (show ¬ nI lo = nI (na + 1) - 1 from ?_) (o_pos dk (o_pos xk ?_)))))
        · rw [← nI_add, ← n_1, Int32.add_sub_cancel]
          (first | (simp (maxSteps := 4000000) (disch := omega) only [n_0, n_1, n_2, n_3, n_4, n_5, n_6, n_7, n_8, n_9, n_10, n_11, n_12, n_13, n_14, n_15, n_16, n_18, n_20, n_24, n_31, n_32, n_34, n_40, n_41, n_44, n_45, n_47, n_48, n_57, n_58, n_59, n_61, n_63, n_64, n_65, n_68, n_90, n_91, n_93, n_95, n_97, n_100, n_122, n_123, n_125, n_128, n_144, n_200, n_255, n_256, n_300, n_400, n_600, n_1536, n_3980, n_4000, n_4001, n_4300, n_65536, l_0, l_1, l_2, l_3, l_4, l_10, l_48, l_63, l_255, l_300, nI_ltI, nI_leI, nI_eq, nI_clamp, nI_add, pk_sub, pk_mul, nI_ne1, ne1_nI, nI_pge, nI_nlt0, nI_l, lN_i, lN_add, lN_mul, lN_sub, pk_lLT, pk_lLE, pk_lEQ, lg_lt, lg_ge, lg_eq0, lg_le, lg_gt, lg_ltn, lg_gen, lg_eq0n, lg_len, lg_gtn, Nat.zero_le, Nat.not_lt_zero, not_false_eq_true, not_true_eq_false, true_and, and_true]; done) | (simp (maxSteps := 4000000) (disch := omega) only [n_0, n_1, n_2, n_3, n_4, n_5, n_6, n_7, n_8, n_9, n_10, n_11, n_12, n_13, n_14, n_15, n_16, n_18, n_20, n_24, n_31, n_32, n_34, n_40, n_41, n_44, n_45, n_47, n_48, n_57, n_58, n_59, n_61, n_63, n_64, n_65, n_68, n_90, n_91, n_93, n_95, n_97, n_100, n_122, n_123, n_125, n_128, n_144, n_200, n_255, n_256, n_300, n_400, n_600, n_1536, n_3980, n_4000, n_4001, n_4300, n_65536, l_0, l_1, l_2, l_3, l_4, l_10, l_48, l_63, l_255, l_300, nI_ltI, nI_leI, nI_eq, nI_clamp, nI_add, pk_sub, pk_mul, nI_ne1, ne1_nI, nI_pge, nI_nlt0, nI_l, lN_i, lN_add, lN_mul, lN_sub, pk_lLT, pk_lLE, pk_lEQ, lg_lt, lg_ge, lg_eq0, lg_le, lg_gt, lg_ltn, lg_gen, lg_eq0n, lg_len, lg_gtn, Nat.zero_le, Nat.not_lt_zero, not_false_eq_true, not_true_eq_false, true_and, and_true]; omega) | omega)
        · rw [n_1, nI_add]
  · obtain ⟨s1, s2, s3⟩ := resFault (kk := kk) ST0 a4
    refine Or.inr ⟨_, _, r, fun K => resolve_m_no (m := na + 1) m14' N.2.2.2.2.2.2.2.2.2 (by omega) (by omega) a3 (by omega) a6 w2 (df.imp id fun ⟨d, ad, so, no, d1, d2, d3, d4, d5⟩ => ⟨d, so, by omega, by unfold DA at d2; omega, d3, d4, d5⟩), s1, s2, s3⟩
/-- the root -/
theorem resRoot (A : RZ T n c S t nd ns nt nu na k kr na g h) : (∃ u p ro, f_p_resolve t (t + 2) g = some (1, u) ∧ (∀ K, s_m_resolve_2 K (nI na) h = K (nI (na + 1)) p) ∧ ro < nt ∧ hi u (t + 2) 4 = nI ro ∧ hi p 1262 45 = nI ro ∧ ST T n c u p t S k ∧ BG T n c S t nd ns 0 nt 0 nu 0 na ns nt nu na u p ∧ CN S t nd ns nt nu (na + 1) ns nt nu u p ∧ LY p ∧ FC S t g u ∧ FMx h p) ∨ (∃ u p, f_p_resolve t (t + 2) g = some (0, u) ∧ (∀ K, s_m_resolve_2 K (nI na) h = K (nI (na + 1)) p) ∧ FLT u p t ∧ FRM (tF t) g u ∧ FRM m14 h p) := by
  have A' := A
  obtain ⟨ST0, B, N, Lh, R⟩ := A'
  have B0 := B
  obtain ⟨M0, KC', D, -, -, -, -, -, -, E, -, ⟨l1, l2, l3, l4, l5, l6, l7, l8, l9, l10, l11, l12, l13, l14⟩⟩ := B0
  have L := ST0.1.1
  have t17 := ST0.1.2.1
  have hS := ST0.1.2.2.2.1
  have K := ST0.2.1
  have c4 := K.2.2.2.1
  have m14' := ST0.2.2.2.2.2.2
  obtain ⟨r1, r2, r3, r4, r5, r6, r7⟩ := R
  have ak : t + 2 < hz g ∧ hk g (t + 2) = 3 := ⟨by have := ST0.1.2.2.1; omega, ST0.1.2.2.2.2.2.2.2.2.2.2.2.1⟩
  have lk : 0 ≤ nI na ∧ nI na < nI 400 := ⟨nI_pos' (by omega), by (first | (simp (maxSteps := 4000000) (disch := omega) only [n_0, n_1, n_2, n_3, n_4, n_5, n_6, n_7, n_8, n_9, n_10, n_11, n_12, n_13, n_14, n_15, n_16, n_18, n_20, n_24, n_31, n_32, n_34, n_40, n_41, n_44, n_45, n_47, n_48, n_57, n_58, n_59, n_61, n_63, n_64, n_65, n_68, n_90, n_91, n_93, n_95, n_97, n_100, n_122, n_123, n_125, n_128, n_144, n_200, n_255, n_256, n_300, n_400, n_600, n_1536, n_3980, n_4000, n_4001, n_4300, n_65536, l_0, l_1, l_2, l_3, l_4, l_10, l_48, l_63, l_255, l_300, nI_ltI, nI_leI, nI_eq, nI_clamp, nI_add, pk_sub, pk_mul, nI_ne1, ne1_nI, nI_pge, nI_nlt0, nI_l, lN_i, lN_add, lN_mul, lN_sub, pk_lLT, pk_lLE, pk_lEQ, lg_lt, lg_ge, lg_eq0, lg_le, lg_gt, lg_ltn, lg_gen, lg_eq0n, lg_len, lg_gtn, Nat.zero_le, Nat.not_lt_zero, not_false_eq_true, not_true_eq_false, true_and, and_true]; done) | (simp (maxSteps := 4000000) (disch := omega) only [n_0, n_1, n_2, n_3, n_4, n_5, n_6, n_7, n_8, n_9, n_10, n_11, n_12, n_13, n_14, n_15, n_16, n_18, n_20, n_24, n_31, n_32, n_34, n_40, n_41, n_44, n_45, n_47, n_48, n_57, n_58, n_59, n_61, n_63, n_64, n_65, n_68, n_90, n_91, n_93, n_95, n_97, n_100, n_122, n_123, n_125, n_128, n_144, n_200, n_255, n_256, n_300, n_400, n_600, n_1536, n_3980, n_4000, n_4001, n_4300, n_65536, l_0, l_1, l_2, l_3, l_4, l_10, l_48, l_63, l_255, l_300, nI_ltI, nI_leI, nI_eq, nI_clamp, nI_add, pk_sub, pk_mul, nI_ne1, ne1_nI, nI_pge, nI_nlt0, nI_l, lN_i, lN_add, lN_mul, lN_sub, pk_lLT, pk_lLE, pk_lEQ, lg_lt, lg_ge, lg_eq0, lg_le, lg_gt, lg_ltn, lg_gen, lg_eq0n, lg_len, lg_gtn, Nat.zero_le, Nat.not_lt_zero, not_false_eq_true, not_true_eq_false, true_and, and_true]; omega) | omega)⟩
  have cl : (nI na).toNatClampNeg = na := nI_clamp (by omega)
  rcases resolve_c (w := 2) ST0.1 K M0 KC' l3 l6 l9 l10 D N.1 N.2.1 ak r2 r4 r5 (Or.inr (Or.inr ⟨rfl, r3⟩)) with ⟨d, ad, so, no, d1, d2, d3, d4, d5, ok, r⟩ | ⟨df, r⟩
  · have dk : 0 ≤ nI d ∧ nI d < nI 40 := ⟨nI_pos' (by omega), by (first | (simp (maxSteps := 4000000) (disch := omega) only [n_0, n_1, n_2, n_3, n_4, n_5, n_6, n_7, n_8, n_9, n_10, n_11, n_12, n_13, n_14, n_15, n_16, n_18, n_20, n_24, n_31, n_32, n_34, n_40, n_41, n_44, n_45, n_47, n_48, n_57, n_58, n_59, n_61, n_63, n_64, n_65, n_68, n_90, n_91, n_93, n_95, n_97, n_100, n_122, n_123, n_125, n_128, n_144, n_200, n_255, n_256, n_300, n_400, n_600, n_1536, n_3980, n_4000, n_4001, n_4300, n_65536, l_0, l_1, l_2, l_3, l_4, l_10, l_48, l_63, l_255, l_300, nI_ltI, nI_leI, nI_eq, nI_clamp, nI_add, pk_sub, pk_mul, nI_ne1, ne1_nI, nI_pge, nI_nlt0, nI_l, lN_i, lN_add, lN_mul, lN_sub, pk_lLT, pk_lLE, pk_lEQ, lg_lt, lg_ge, lg_eq0, lg_le, lg_gt, lg_ltn, lg_gen, lg_eq0n, lg_len, lg_gtn, Nat.zero_le, Nat.not_lt_zero, not_false_eq_true, not_true_eq_false, true_and, and_true]; done) | (simp (maxSteps := 4000000) (disch := omega) only [n_0, n_1, n_2, n_3, n_4, n_5, n_6, n_7, n_8, n_9, n_10, n_11, n_12, n_13, n_14, n_15, n_16, n_18, n_20, n_24, n_31, n_32, n_34, n_40, n_41, n_44, n_45, n_47, n_48, n_57, n_58, n_59, n_61, n_63, n_64, n_65, n_68, n_90, n_91, n_93, n_95, n_97, n_100, n_122, n_123, n_125, n_128, n_144, n_200, n_255, n_256, n_300, n_400, n_600, n_1536, n_3980, n_4000, n_4001, n_4300, n_65536, l_0, l_1, l_2, l_3, l_4, l_10, l_48, l_63, l_255, l_300, nI_ltI, nI_leI, nI_eq, nI_clamp, nI_add, pk_sub, pk_mul, nI_ne1, ne1_nI, nI_pge, nI_nlt0, nI_l, lN_i, lN_add, lN_mul, lN_sub, pk_lLT, pk_lLE, pk_lEQ, lg_lt, lg_ge, lg_eq0, lg_le, lg_gt, lg_ltn, lg_gen, lg_eq0n, lg_len, lg_gtn, Nat.zero_le, Nat.not_lt_zero, not_false_eq_true, not_true_eq_false, true_and, and_true]; omega) | omega)⟩
    have cd : (nI d).toNatClampNeg = d := nI_clamp (by omega)
    have so3 : so = 3 := by unfold wOK at ok; omega
    have no3 : no < nt := by unfold DA at d2; omega
    have mk : ∀ K, s_m_resolve_2 K (nI na) h = b_m_resolve_77 K (nI na) (nI d) 1 h := fun K => resolve_m_ok (m := na + 1) (w := 2) m14' N.2.2.2.2.2.2.2.2.2 (by omega) (by omega) r6 r7 (by omega) d3 (by omega) d4 (by omega) ok
    obtain ⟨u, eu⟩ : ∃ u, u = hsi (hsi g (t + 2) 4 (nI no)) (t + 2) 3 (nI so) := ⟨_, rfl⟩
    obtain ⟨p, ep⟩ : ∃ p, p = hsi h 1262 45 (nI no) := ⟨_, rfl⟩
    have F : FRX (reP (t + 2)) nW nW g u := by rw [eu]; exact (FRX.refl.si ⟨rfl, by decide, by decide⟩).si ⟨rfl, by decide, by decide⟩
    have G : FRX (fun a k => a = 1262 ∧ k = 45) nW nW h p := by rw [ep]; exact FRX.refl.si ⟨rfl, rfl⟩
    have Gm : FMx h p := G.mono (fun a k z => by unfold nM; omega) (fun _ _ z => z.elim) (fun _ _ z => z)
    refine Or.inl ⟨u, p, no, ?_, fun K => (mk K).trans ?_, no3, by rw [eu, hi_nk (by decide), hi_at], by rw [ep, hi_at], ST0.con (F.mono (fun a' k z => by unfold reP at z; unfold xP; omega) (fun _ _ z => z.elim) (fun _ _ z => z.elim)) (G.mono (fun a k z => by unfold xM; omega) (fun _ _ z => z.elim) (fun _ _ z => z)), B.fr L t17 (F.mono (fun a' k z => Or.inr (Or.inl (by unfold reP at z; omega))) (fun _ _ z => z.elim) (fun _ _ z => z.elim)) (G.mono (fun a k z => by unfold zP; omega) (fun _ _ z => z.elim) (fun _ _ z => z)), N.fr F G ⟨by unfold reP; omega, by unfold reP; omega, by unfold reP; omega, by unfold reP; omega, by unfold reP; omega⟩ ⟨by omega, by omega, by omega, by omega, by omega⟩, Gm.ly Lh, F.mono (fun a' k z => Or.inl (by unfold reP at z; omega)) (fun _ _ z => z.elim) (fun _ _ z => z.elim), Gm⟩
    · rcases r with ⟨r0, -⟩ | ⟨-, r⟩
      · omega
      · rw [eu]; exact r
    · unfold b_m_resolve_77 b_m_resolve_218
      rw [cl, cd, r7, d5, N.2.2.2.2.2.2.2.2.2, ep]
      refine o_pos one0 (o_pos lk (o_neg (by decide) (o_neg (not_not_intro ?_) (o_pos dk ?_))))
      · rw [← nI_add, ← n_1, Int32.add_sub_cancel]
      · rw [n_1, nI_add]
  · obtain ⟨s1, s2, s3⟩ := resFault (kk := kr) ST0 r4
    refine Or.inr ⟨_, _, r, fun K => resolve_m_no (m := na + 1) (w := 2) m14' N.2.2.2.2.2.2.2.2.2 (by omega) (by omega) r6 (by omega) r7 (by omega) (df.imp id fun ⟨d, ad, so, no, d1, d2, d3, d4, d5⟩ => ⟨d, so, by omega, by unfold DA at d2; omega, d3, d4, d5⟩), s1, s2, s3⟩
/-- behind all: the model's tables as it numbers their slots -/
def TBM (nt : Nat) (p : XH) : Prop := nt ≤ 16 ∧ hi p 1262 31 = nI nt ∧ ∀ s, s < nt → ∃ n, n ≤ 16 ∧ hi p 1283 s = nI n
theorem RZ.tbm (A : RZ T n c S t nd ns nt nu na k kr lo g h) (G : FRM m14 h p) : TBM nt p := by
  obtain ⟨ST0, B, N, Lh, R⟩ := A
  refine ⟨by have := B.2.2.2.2.2.2.2.2.2.2.2; omega, by rw [G.at (by simp [m14])]; exact N.2.2.2.2.2.2.1, fun s hs => ?_⟩
  obtain ⟨m, m1, m2, m3, -⟩ := B.2.2.2.2.2.1 s hs
  exact ⟨m, m1, by rw [G.at (by simp [m14])]; exact m3⟩
theorem resAll : ∀ (m lo fuel F : Nat) (g h : XH), lo + m = na → m + 2 ≤ fuel → m + 2 ≤ F → RZ T n c S t nd ns nt nu na k kr lo g h → (∃ u p ro, b_p_resolveAll_2 fuel t (nI lo) g = some (1, u) ∧ b_m_resolve_2 F (nI lo) h = b_m_resolve_224 p ∧ ro < nt ∧ hi u (t + 2) 4 = nI ro ∧ hi p 1262 45 = nI ro ∧ ST T n c u p t S k ∧ BG T n c S t nd ns 0 nt 0 nu 0 na ns nt nu na u p ∧ CN S t nd ns nt nu (na + 1) ns nt nu u p ∧ LY p ∧ FC S t g u ∧ FMx h p) ∨ (∃ u p, b_p_resolveAll_2 fuel t (nI lo) g = some (0, u) ∧ b_m_resolve_2 F (nI lo) h = b_m_resolve_224 p ∧ FLT u p t ∧ TBM nt p ∧ FC S t g u ∧ FMx h p) := by
  have bad : ∀ {F lo : Nat} {p : XH}, ¬ hi p 1262 14 = 0 → b_m_resolve_2 (F + 1) (nI lo) p = b_m_resolve_224 p := by
    intro F lo p m
    show s_m_resolve_2 (b_m_resolve_2 F) _ _ = _
    unfold s_m_resolve_2
    by_cases q : hi p 1262 46 ≤ nI lo
    · exact o_pos q rfl
    · exact o_neg q (o_pos m rfl)
  have turn : ∀ {fu lo : Nat} {g h : XH} {a : Nat} {r : Int32} {u : XH} {X : Option (Int32 × XH)}, RZ T n c S t nd ns nt nu na k kr lo g h → ∀ i, i ≤ na → hr g (t + 1) i = some a → f_p_resolve t a g = some (r, u) → (if ¬ r = 0 then b_p_resolveAll_2 fu t (nI (i + 1)) u else some (0, u)) = X → b_p_resolveAll_2 (fu + 1) t (nI i) g = X := by
    intro fu lo g h a r u X A i hi' e1 e2 e3
    obtain ⟨ST0, B, N, Lh, R⟩ := A
    have l := B.2.2.2.2.2.2.2.2.2.2.2
    obtain ⟨-, c2, c3, -, -, c6, c7, c8, c9, c10, c11, c12⟩ := ST0.1
    show s_p_resolveAll_2 (b_p_resolveAll_2 fu) _ _ _ = _
    unfold s_p_resolveAll_2 b_p_resolveAll_40
    rw [N.2.2.2.2.2.2.2.2.1, nI_clamp (show i < 2 ^ 31 by omega), n_1, nI_add]
    refine o_pos ST0.1.tk (o_neg (by (first | (simp (maxSteps := 4000000) (disch := omega) only [n_0, n_1, n_2, n_3, n_4, n_5, n_6, n_7, n_8, n_9, n_10, n_11, n_12, n_13, n_14, n_15, n_16, n_18, n_20, n_24, n_31, n_32, n_34, n_40, n_41, n_44, n_45, n_47, n_48, n_57, n_58, n_59, n_61, n_63, n_64, n_65, n_68, n_90, n_91, n_93, n_95, n_97, n_100, n_122, n_123, n_125, n_128, n_144, n_200, n_255, n_256, n_300, n_400, n_600, n_1536, n_3980, n_4000, n_4001, n_4300, n_65536, l_0, l_1, l_2, l_3, l_4, l_10, l_48, l_63, l_255, l_300, nI_ltI, nI_leI, nI_eq, nI_clamp, nI_add, pk_sub, pk_mul, nI_ne1, ne1_nI, nI_pge, nI_nlt0, nI_l, lN_i, lN_add, lN_mul, lN_sub, pk_lLT, pk_lLE, pk_lEQ, lg_lt, lg_ge, lg_eq0, lg_le, lg_gt, lg_ltn, lg_gen, lg_eq0n, lg_len, lg_gtn, Nat.zero_le, Nat.not_lt_zero, not_false_eq_true, not_true_eq_false, true_and, and_true]; done) | (simp (maxSteps := 4000000) (disch := omega) only [n_0, n_1, n_2, n_3, n_4, n_5, n_6, n_7, n_8, n_9, n_10, n_11, n_12, n_13, n_14, n_15, n_16, n_18, n_20, n_24, n_31, n_32, n_34, n_40, n_41, n_44, n_45, n_47, n_48, n_57, n_58, n_59, n_61, n_63, n_64, n_65, n_68, n_90, n_91, n_93, n_95, n_97, n_100, n_122, n_123, n_125, n_128, n_144, n_200, n_255, n_256, n_300, n_400, n_600, n_1536, n_3980, n_4000, n_4001, n_4300, n_65536, l_0, l_1, l_2, l_3, l_4, l_10, l_48, l_63, l_255, l_300, nI_ltI, nI_leI, nI_eq, nI_clamp, nI_add, pk_sub, pk_mul, nI_ne1, ne1_nI, nI_pge, nI_nlt0, nI_l, lN_i, lN_add, lN_mul, lN_sub, pk_lLT, pk_lLE, pk_lEQ, lg_lt, lg_ge, lg_eq0, lg_le, lg_gt, lg_ltn, lg_gen, lg_eq0n, lg_len, lg_gtn, Nat.zero_le, Nat.not_lt_zero, not_false_eq_true, not_true_eq_false, true_and, and_true]; omega) | omega)) (o_bind c8 (o_pos ⟨by omega, c10⟩ ?_)))
    rw [c11]
    exact o_neg (by (first | (simp (maxSteps := 4000000) (disch := omega) only [n_0, n_1, n_2, n_3, n_4, n_5, n_6, n_7, n_8, n_9, n_10, n_11, n_12, n_13, n_14, n_15, n_16, n_18, n_20, n_24, n_31, n_32, n_34, n_40, n_41, n_44, n_45, n_47, n_48, n_57, n_58, n_59, n_61, n_63, n_64, n_65, n_68, n_90, n_91, n_93, n_95, n_97, n_100, n_122, n_123, n_125, n_128, n_144, n_200, n_255, n_256, n_300, n_400, n_600, n_1536, n_3980, n_4000, n_4001, n_4300, n_65536, l_0, l_1, l_2, l_3, l_4, l_10, l_48, l_63, l_255, l_300, nI_ltI, nI_leI, nI_eq, nI_clamp, nI_add, pk_sub, pk_mul, nI_ne1, ne1_nI, nI_pge, nI_nlt0, nI_l, lN_i, lN_add, lN_mul, lN_sub, pk_lLT, pk_lLE, pk_lEQ, lg_lt, lg_ge, lg_eq0, lg_le, lg_gt, lg_ltn, lg_gen, lg_eq0n, lg_len, lg_gtn, Nat.zero_le, Nat.not_lt_zero, not_false_eq_true, not_true_eq_false, true_and, and_true]; done) | (simp (maxSteps := 4000000) (disch := omega) only [n_0, n_1, n_2, n_3, n_4, n_5, n_6, n_7, n_8, n_9, n_10, n_11, n_12, n_13, n_14, n_15, n_16, n_18, n_20, n_24, n_31, n_32, n_34, n_40, n_41, n_44, n_45, n_47, n_48, n_57, n_58, n_59, n_61, n_63, n_64, n_65, n_68, n_90, n_91, n_93, n_95, n_97, n_100, n_122, n_123, n_125, n_128, n_144, n_200, n_255, n_256, n_300, n_400, n_600, n_1536, n_3980, n_4000, n_4001, n_4300, n_65536, l_0, l_1, l_2, l_3, l_4, l_10, l_48, l_63, l_255, l_300, nI_ltI, nI_leI, nI_eq, nI_clamp, nI_add, pk_sub, pk_mul, nI_ne1, ne1_nI, nI_pge, nI_nlt0, nI_l, lN_i, lN_add, lN_mul, lN_sub, pk_lLT, pk_lLE, pk_lEQ, lg_lt, lg_ge, lg_eq0, lg_le, lg_gt, lg_ltn, lg_gen, lg_eq0n, lg_len, lg_gtn, Nat.zero_le, Nat.not_lt_zero, not_false_eq_true, not_true_eq_false, true_and, and_true]; omega) | omega)) (o_pos ⟨nI_pos' (by omega), by (first | (simp (maxSteps := 4000000) (disch := omega) only [n_0, n_1, n_2, n_3, n_4, n_5, n_6, n_7, n_8, n_9, n_10, n_11, n_12, n_13, n_14, n_15, n_16, n_18, n_20, n_24, n_31, n_32, n_34, n_40, n_41, n_44, n_45, n_47, n_48, n_57, n_58, n_59, n_61, n_63, n_64, n_65, n_68, n_90, n_91, n_93, n_95, n_97, n_100, n_122, n_123, n_125, n_128, n_144, n_200, n_255, n_256, n_300, n_400, n_600, n_1536, n_3980, n_4000, n_4001, n_4300, n_65536, l_0, l_1, l_2, l_3, l_4, l_10, l_48, l_63, l_255, l_300, nI_ltI, nI_leI, nI_eq, nI_clamp, nI_add, pk_sub, pk_mul, nI_ne1, ne1_nI, nI_pge, nI_nlt0, nI_l, lN_i, lN_add, lN_mul, lN_sub, pk_lLT, pk_lLE, pk_lEQ, lg_lt, lg_ge, lg_eq0, lg_le, lg_gt, lg_ltn, lg_gen, lg_eq0n, lg_len, lg_gtn, Nat.zero_le, Nat.not_lt_zero, not_false_eq_true, not_true_eq_false, true_and, and_true]; done) | (simp (maxSteps := 4000000) (disch := omega) only [n_0, n_1, n_2, n_3, n_4, n_5, n_6, n_7, n_8, n_9, n_10, n_11, n_12, n_13, n_14, n_15, n_16, n_18, n_20, n_24, n_31, n_32, n_34, n_40, n_41, n_44, n_45, n_47, n_48, n_57, n_58, n_59, n_61, n_63, n_64, n_65, n_68, n_90, n_91, n_93, n_95, n_97, n_100, n_122, n_123, n_125, n_128, n_144, n_200, n_255, n_256, n_300, n_400, n_600, n_1536, n_3980, n_4000, n_4001, n_4300, n_65536, l_0, l_1, l_2, l_3, l_4, l_10, l_48, l_63, l_255, l_300, nI_ltI, nI_leI, nI_eq, nI_clamp, nI_add, pk_sub, pk_mul, nI_ne1, ne1_nI, nI_pge, nI_nlt0, nI_l, lN_i, lN_add, lN_mul, lN_sub, pk_lLT, pk_lLE, pk_lEQ, lg_lt, lg_ge, lg_eq0, lg_le, lg_gt, lg_ltn, lg_gen, lg_eq0n, lg_len, lg_gtn, Nat.zero_le, Nat.not_lt_zero, not_false_eq_true, not_true_eq_false, true_and, and_true]; omega) | omega), by decide⟩ (o_bind e1 (o_bind e2 e3)))
  intro m
  induction m with
  | zero =>
    intro lo fuel F g h e h1 h2 A
    have el : lo = na := by omega
    subst el
    obtain ⟨fu1, rfl, f1⟩ := fuel_pos (show 0 < fuel by omega)
    obtain ⟨fu2, rfl, -⟩ := fuel_pos (show 0 < fu1 by omega)
    obtain ⟨F1, rfl, f2⟩ := fuel_pos (show 0 < F by omega)
    obtain ⟨F2, rfl, -⟩ := fuel_pos (show 0 < F1 by omega)
    have R1 := A.2.2.2.2.1
    rcases resRoot A with ⟨u, p, ro, r1, r2, r3, r4, r5, r6, r7, r8, r9, r10, r11⟩ | ⟨u, p, r1, r2, r3, r4, r5⟩
    · have l := r7.2.2.2.2.2.2.2.2.2.2.2
      refine Or.inl ⟨u, p, ro, turn A lo (Nat.le_refl _) R1 r1 (o_pos one0 ?_), (r2 _).trans ?_, r3, r4, r5, r6, r7, r8, r9, r10, r11⟩
      · show s_p_resolveAll_2 (b_p_resolveAll_2 fu2) _ _ _ = _
        unfold s_p_resolveAll_2
        rw [r8.2.2.2.2.2.2.2.2.1]
        exact o_pos r6.1.tk (o_pos (Int32.le_refl _) rfl)
      · show s_m_resolve_2 (b_m_resolve_2 F2) _ _ = _
        unfold s_m_resolve_2
        rw [r8.2.2.2.2.2.2.2.2.2]
        exact o_pos (Int32.le_refl _) rfl
    · exact Or.inr ⟨u, p, turn A lo (Nat.le_refl _) R1 r1 (o_neg (not_not_intro rfl) rfl), (r2 _).trans (bad r3.2.2), r3, A.tbm r5, FC.tFq r4, FMx.q14 r5⟩
  | succ m ih =>
    intro lo fuel F g h e h1 h2 A
    obtain ⟨fu1, rfl, f1⟩ := fuel_pos (show 0 < fuel by omega)
    obtain ⟨F1, rfl, f2⟩ := fuel_pos (show 0 < F by omega)
    obtain ⟨F2, hF2, -⟩ := fuel_pos (show 0 < F1 by omega)
    obtain ⟨a, a1, ⟨u, p, r1, r2, r3, r4, r5⟩ | ⟨u, p, r1, r2, r3, r4, r5⟩⟩ := resTurn A (by omega)
    · have c1 : b_p_resolveAll_2 (fu1 + 1) t (nI lo) g = b_p_resolveAll_2 fu1 t (nI (lo + 1)) u := turn A lo (by omega) a1 r1 (o_pos one0 rfl)
      have c2 : b_m_resolve_2 (F1 + 1) (nI lo) h = b_m_resolve_2 F1 (nI (lo + 1)) p := r2 _
      rw [c1, c2]
      rcases ih (lo + 1) fu1 F1 u p (by omega) (by omega) (by omega) r3 with ⟨u', p', ro, s1, s2, s3, s4, s5, s6, s7, s8, s9, s10, s11⟩ | ⟨u', p', s1, s2, s3, s4, s5, s6⟩
      · exact Or.inl ⟨u', p', ro, s1, s2, s3, s4, s5, s6, s7, s8, s9, r4.trans s10, FRX.trans r5 s11⟩
      · exact Or.inr ⟨u', p', s1, s2, s3, s4, r4.trans s5, FRX.trans r5 s6⟩
    · subst hF2
      exact Or.inr ⟨u, p, turn A lo (by omega) a1 r1 (o_neg (not_not_intro rfl) rfl), (r2 _).trans (bad r3.2.2), r3, A.tbm r5, FC.tFq r4, FMx.q14 r5⟩
end Rz
