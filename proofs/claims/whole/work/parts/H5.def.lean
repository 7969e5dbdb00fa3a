/-! The parsers: a definition -/

def dRs2 (g : XH) (ad : Nat) (x y : Int64) : XH := hsi (hsi (hsi (hsi (hsi (hsj (hsj g ad 4 x) ad 5 y) ad 3 0) ad 6 0) ad 7 1) ad 8 0) ad 11 0
def ndC (S a ad a' k : Nat) : Prop := (a' = ad ∧ 2 ≤ k) ∨ (a' = a ∧ k = 1) ∨ (a' = S ∧ k = 4)
def ndP (S t a ad a' k : Nat) : Prop := ndC S a ad a' k ∨ (a' = t ∧ (k = 5 ∨ k = 6))
def ndJ (ad a' _k : Nat) : Prop := a' = ad
def ndW (S nd a' k : Nat) : Prop := a' = S + 615 ∧ k = nd
section Nd
variable {T : Nat → Nat} {n c t S k nd ns nt nu na es et eu a M F LN e ad : Nat} {g h u p : XH}
theorem addTo_c {x y : Int64} (L : SC g S) (hS : S = 12 ∨ S = 628) (G : GR g a M F LN) (ea : hi g a 1 = nI e) (e4 : hi g S 4 = nI nd) (hnd : nd < 36) (he : e < M) (had : ad = a + 2 + e * (F + 4)) (z1 : S < a) (z2 : a < ad) (z3 : ad < S + 615) : ∃ v, f_s_addTo S a x y g = some (some ad, v) ∧ FRX (ndC S a ad) (ndJ ad) (ndW S nd) g v ∧ (hi v ad 3 = 0 ∧ hi v ad 6 = 0 ∧ hi v ad 7 = 1 ∧ hi v ad 11 = 0) ∧ hi v a 1 = nI (e + 1) ∧ hi v S 4 = nI (nd + 1) ∧ hj v ad 4 = x ∧ hj v ad 5 = y ∧ hr v (S + 615) nd = some ad := by
  obtain ⟨d1, d2, d3, d4, d5, d6, d7, d8⟩ := G
  obtain ⟨d9, D⟩ := d8 e he
  rw [← had] at d9 D
  have s9 : S < hz g ∧ hk g S = 9 := ⟨by have := L.1; omega, L.2.2.1⟩
  have s15 : S + 615 < hz g ∧ hk g (S + 615) = 105 := ⟨by have := L.1; omega, L.2.2.2.2.2.2.2.1⟩
  have a4 : a < hz g ∧ hk g a = 4 := ⟨by omega, d4⟩
  have k2 : ad < hz g ∧ hk g ad = 2 := ⟨by have := D.1; omega, D.2.2.2.2.1⟩
  obtain ⟨r, er⟩ : ∃ r, r = dRs2 g ad x y := ⟨_, rfl⟩
  have rs : f_d_restart ad x y g = some ((), r) := by
    rw [er]
    exact o_pos k2 rfl
  have Fr : FRX (ndC S a ad) (ndJ ad) nW g r := by
    rw [er]
    unfold dRs2
    exact FRX.si (FRX.si (FRX.si (FRX.si (FRX.si (FRX.sj (FRX.sj FRX.refl rfl) rfl) (Or.inl ⟨rfl, by decide⟩)) (Or.inl ⟨rfl, by decide⟩)) (Or.inl ⟨rfl, by decide⟩)) (Or.inl ⟨rfl, by decide⟩)) (Or.inl ⟨rfl, by decide⟩)
  have r1 : hi r a = hi g a := by
    rw [er]
    unfold dRs2
    simp (maxSteps := 4000000) (disch := omega) only [hi_hsi_ne, hi_hsj]
  have rS : hi r S = hi g S := by
    rw [er]
    unfold dRs2
    simp (maxSteps := 4000000) (disch := omega) only [hi_hsi_ne, hi_hsj]
  have ri : hi r ad 3 = 0 ∧ hi r ad 6 = 0 ∧ hi r ad 7 = 1 ∧ hi r ad 11 = 0 := by
    rw [er]
    unfold dRs2
    simp (disch := decide) only [hi_nk, hi_at, and_self]
  have rj : hj r ad 4 = x ∧ hj r ad 5 = y := by
    rw [er]
    unfold dRs2
    simp (disch := decide) only [hj_hsi, hj_nk, hj_at, and_self]
  obtain ⟨v0, e0⟩ : ∃ v0, v0 = hsi r a 1 (nI (e + 1)) := ⟨_, rfl⟩
  have rk : a < hz r ∧ hk r a = 4 := by rw [Fr.1.1, Fr.1.2.2.1]; exact a4
  have ga : f_g_add a x y g = some (some ad, v0) := by
    unfold f_g_add
    rw [ea, nI_clamp (show e < 2 ^ 31 by omega)]
    refine o_pos a4 (o_neg (by (first | (simp (maxSteps := 4000000) (disch := omega) only [n_0, n_1, n_2, n_3, n_4, n_5, n_6, n_7, n_8, n_9, n_10, n_11, n_12, n_13, n_14, n_15, n_16, n_18, n_20, n_24, n_31, n_32, n_34, n_40, n_41, n_44, n_45, n_47, n_48, n_57, n_58, n_59, n_61, n_63, n_64, n_65, n_68, n_90, n_91, n_93, n_95, n_97, n_100, n_122, n_123, n_125, n_128, n_144, n_200, n_255, n_256, n_300, n_400, n_600, n_1536, n_3980, n_4000, n_4001, n_4300, n_65536, l_0, l_1, l_2, l_3, l_4, l_10, l_48, l_63, l_255, l_300, nI_ltI, nI_leI, nI_eq, nI_clamp, nI_add, pk_sub, pk_mul, nI_ne1, ne1_nI, nI_pge, nI_nlt0, nI_l, lN_i, lN_add, lN_mul, lN_sub, pk_lLT, pk_lLE, pk_lEQ, lg_lt, lg_ge, lg_eq0, lg_le, lg_gt, lg_ltn, lg_gen, lg_eq0n, lg_len, lg_gtn, Nat.zero_le, Nat.not_lt_zero, not_false_eq_true, not_true_eq_false, true_and, and_true]; done) | (simp (maxSteps := 4000000) (disch := omega) only [n_0, n_1, n_2, n_3, n_4, n_5, n_6, n_7, n_8, n_9, n_10, n_11, n_12, n_13, n_14, n_15, n_16, n_18, n_20, n_24, n_31, n_32, n_34, n_40, n_41, n_44, n_45, n_47, n_48, n_57, n_58, n_59, n_61, n_63, n_64, n_65, n_68, n_90, n_91, n_93, n_95, n_97, n_100, n_122, n_123, n_125, n_128, n_144, n_200, n_255, n_256, n_300, n_400, n_600, n_1536, n_3980, n_4000, n_4001, n_4300, n_65536, l_0, l_1, l_2, l_3, l_4, l_10, l_48, l_63, l_255, l_300, nI_ltI, nI_leI, nI_eq, nI_clamp, nI_add, pk_sub, pk_mul, nI_ne1, ne1_nI, nI_pge, nI_nlt0, nI_l, lN_i, lN_add, lN_mul, lN_sub, pk_lLT, pk_lLE, pk_lEQ, lg_lt, lg_ge, lg_eq0, lg_le, lg_gt, lg_ltn, lg_gen, lg_eq0n, lg_len, lg_gtn, Nat.zero_le, Nat.not_lt_zero, not_false_eq_true, not_true_eq_false, true_and, and_true]; omega) | omega)) (o_bind d5 (o_pos ⟨by omega, d6⟩ ?_)))
    rw [d7]
    refine o_pos (by (first | (simp (maxSteps := 4000000) (disch := omega) only [n_0, n_1, n_2, n_3, n_4, n_5, n_6, n_7, n_8, n_9, n_10, n_11, n_12, n_13, n_14, n_15, n_16, n_18, n_20, n_24, n_31, n_32, n_34, n_40, n_41, n_44, n_45, n_47, n_48, n_57, n_58, n_59, n_61, n_63, n_64, n_65, n_68, n_90, n_91, n_93, n_95, n_97, n_100, n_122, n_123, n_125, n_128, n_144, n_200, n_255, n_256, n_300, n_400, n_600, n_1536, n_3980, n_4000, n_4001, n_4300, n_65536, l_0, l_1, l_2, l_3, l_4, l_10, l_48, l_63, l_255, l_300, nI_ltI, nI_leI, nI_eq, nI_clamp, nI_add, pk_sub, pk_mul, nI_ne1, ne1_nI, nI_pge, nI_nlt0, nI_l, lN_i, lN_add, lN_mul, lN_sub, pk_lLT, pk_lLE, pk_lEQ, lg_lt, lg_ge, lg_eq0, lg_le, lg_gt, lg_ltn, lg_gen, lg_eq0n, lg_len, lg_gtn, Nat.zero_le, Nat.not_lt_zero, not_false_eq_true, not_true_eq_false, true_and, and_true]; done) | (simp (maxSteps := 4000000) (disch := omega) only [n_0, n_1, n_2, n_3, n_4, n_5, n_6, n_7, n_8, n_9, n_10, n_11, n_12, n_13, n_14, n_15, n_16, n_18, n_20, n_24, n_31, n_32, n_34, n_40, n_41, n_44, n_45, n_47, n_48, n_57, n_58, n_59, n_61, n_63, n_64, n_65, n_68, n_90, n_91, n_93, n_95, n_97, n_100, n_122, n_123, n_125, n_128, n_144, n_200, n_255, n_256, n_300, n_400, n_600, n_1536, n_3980, n_4000, n_4001, n_4300, n_65536, l_0, l_1, l_2, l_3, l_4, l_10, l_48, l_63, l_255, l_300, nI_ltI, nI_leI, nI_eq, nI_clamp, nI_add, pk_sub, pk_mul, nI_ne1, ne1_nI, nI_pge, nI_nlt0, nI_l, lN_i, lN_add, lN_mul, lN_sub, pk_lLT, pk_lLE, pk_lEQ, lg_lt, lg_ge, lg_eq0, lg_le, lg_gt, lg_ltn, lg_gen, lg_eq0n, lg_len, lg_gtn, Nat.zero_le, Nat.not_lt_zero, not_false_eq_true, not_true_eq_false, true_and, and_true]; omega) | omega)) (o_pos ⟨nI_pos' (by omega), by (first | (simp (maxSteps := 4000000) (disch := omega) only [n_0, n_1, n_2, n_3, n_4, n_5, n_6, n_7, n_8, n_9, n_10, n_11, n_12, n_13, n_14, n_15, n_16, n_18, n_20, n_24, n_31, n_32, n_34, n_40, n_41, n_44, n_45, n_47, n_48, n_57, n_58, n_59, n_61, n_63, n_64, n_65, n_68, n_90, n_91, n_93, n_95, n_97, n_100, n_122, n_123, n_125, n_128, n_144, n_200, n_255, n_256, n_300, n_400, n_600, n_1536, n_3980, n_4000, n_4001, n_4300, n_65536, l_0, l_1, l_2, l_3, l_4, l_10, l_48, l_63, l_255, l_300, nI_ltI, nI_leI, nI_eq, nI_clamp, nI_add, pk_sub, pk_mul, nI_ne1, ne1_nI, nI_pge, nI_nlt0, nI_l, lN_i, lN_add, lN_mul, lN_sub, pk_lLT, pk_lLE, pk_lEQ, lg_lt, lg_ge, lg_eq0, lg_le, lg_gt, lg_ltn, lg_gen, lg_eq0n, lg_len, lg_gtn, Nat.zero_le, Nat.not_lt_zero, not_false_eq_true, not_true_eq_false, true_and, and_true]; done) | (simp (maxSteps := 4000000) (disch := omega) only [n_0, n_1, n_2, n_3, n_4, n_5, n_6, n_7, n_8, n_9, n_10, n_11, n_12, n_13, n_14, n_15, n_16, n_18, n_20, n_24, n_31, n_32, n_34, n_40, n_41, n_44, n_45, n_47, n_48, n_57, n_58, n_59, n_61, n_63, n_64, n_65, n_68, n_90, n_91, n_93, n_95, n_97, n_100, n_122, n_123, n_125, n_128, n_144, n_200, n_255, n_256, n_300, n_400, n_600, n_1536, n_3980, n_4000, n_4001, n_4300, n_65536, l_0, l_1, l_2, l_3, l_4, l_10, l_48, l_63, l_255, l_300, nI_ltI, nI_leI, nI_eq, nI_clamp, nI_add, pk_sub, pk_mul, nI_ne1, ne1_nI, nI_pge, nI_nlt0, nI_l, lN_i, lN_add, lN_mul, lN_sub, pk_lLT, pk_lLE, pk_lEQ, lg_lt, lg_ge, lg_eq0, lg_le, lg_gt, lg_ltn, lg_gen, lg_eq0n, lg_len, lg_gtn, Nat.zero_le, Nat.not_lt_zero, not_false_eq_true, not_true_eq_false, true_and, and_true]; omega) | omega), by omega⟩ (o_bind d9 (o_pos k2 (o_bind rs (o_pos rk ?_)))))
    show some (some ad, hsi r a 1 (hi r a 1 + 1)) = _
    rw [r1, ea, n_1, nI_add, e0]
  have F0 : FRX (ndC S a ad) (ndJ ad) nW g v0 := by rw [e0]; exact Fr.si (Or.inr (Or.inl ⟨rfl, rfl⟩))
  have vS : hi v0 S 4 = nI nd := by rw [e0, hi_hsi_ne (by omega), rS]; exact e4
  have hz0 := F0.1.1
  have hk0 := F0.1.2.2.1
  have hn0 := F0.1.2.2.2
  have hr0 : hr v0 S 3 = some (S + 615) := by rw [F0.rf (fun z => z)]; exact L.2.2.2.2.2.2.1
  have l36 : hn g (S + 615) = 36 := L.2.2.2.2.2.2.2.2.1
  refine ⟨hsi (hsr v0 (S + 615) nd (some ad)) S 4 (nI (nd + 1)), ?_, ?_, ?_, ?_, ?_, ?_, ?_, ?_⟩
  · unfold f_s_addTo
    rw [e4]
    refine o_pos s9 (o_neg (by (first | (simp (maxSteps := 4000000) (disch := omega) only [n_0, n_1, n_2, n_3, n_4, n_5, n_6, n_7, n_8, n_9, n_10, n_11, n_12, n_13, n_14, n_15, n_16, n_18, n_20, n_24, n_31, n_32, n_34, n_40, n_41, n_44, n_45, n_47, n_48, n_57, n_58, n_59, n_61, n_63, n_64, n_65, n_68, n_90, n_91, n_93, n_95, n_97, n_100, n_122, n_123, n_125, n_128, n_144, n_200, n_255, n_256, n_300, n_400, n_600, n_1536, n_3980, n_4000, n_4001, n_4300, n_65536, l_0, l_1, l_2, l_3, l_4, l_10, l_48, l_63, l_255, l_300, nI_ltI, nI_leI, nI_eq, nI_clamp, nI_add, pk_sub, pk_mul, nI_ne1, ne1_nI, nI_pge, nI_nlt0, nI_l, lN_i, lN_add, lN_mul, lN_sub, pk_lLT, pk_lLE, pk_lEQ, lg_lt, lg_ge, lg_eq0, lg_le, lg_gt, lg_ltn, lg_gen, lg_eq0n, lg_len, lg_gtn, Nat.zero_le, Nat.not_lt_zero, not_false_eq_true, not_true_eq_false, true_and, and_true]; done) | (simp (maxSteps := 4000000) (disch := omega) only [n_0, n_1, n_2, n_3, n_4, n_5, n_6, n_7, n_8, n_9, n_10, n_11, n_12, n_13, n_14, n_15, n_16, n_18, n_20, n_24, n_31, n_32, n_34, n_40, n_41, n_44, n_45, n_47, n_48, n_57, n_58, n_59, n_61, n_63, n_64, n_65, n_68, n_90, n_91, n_93, n_95, n_97, n_100, n_122, n_123, n_125, n_128, n_144, n_200, n_255, n_256, n_300, n_400, n_600, n_1536, n_3980, n_4000, n_4001, n_4300, n_65536, l_0, l_1, l_2, l_3, l_4, l_10, l_48, l_63, l_255, l_300, nI_ltI, nI_leI, nI_eq, nI_clamp, nI_add, pk_sub, pk_mul, nI_ne1, ne1_nI, nI_pge, nI_nlt0, nI_l, lN_i, lN_add, lN_mul, lN_sub, pk_lLT, pk_lLE, pk_lEQ, lg_lt, lg_ge, lg_eq0, lg_le, lg_gt, lg_ltn, lg_gen, lg_eq0n, lg_len, lg_gtn, Nat.zero_le, Nat.not_lt_zero, not_false_eq_true, not_true_eq_false, true_and, and_true]; omega) | omega)) (o_bind L.2.2.2.2.2.2.1 (o_pos s15 ?_)))
    rw [l36]
    refine o_pos (by (first | (simp (maxSteps := 4000000) (disch := omega) only [n_0, n_1, n_2, n_3, n_4, n_5, n_6, n_7, n_8, n_9, n_10, n_11, n_12, n_13, n_14, n_15, n_16, n_18, n_20, n_24, n_31, n_32, n_34, n_40, n_41, n_44, n_45, n_47, n_48, n_57, n_58, n_59, n_61, n_63, n_64, n_65, n_68, n_90, n_91, n_93, n_95, n_97, n_100, n_122, n_123, n_125, n_128, n_144, n_200, n_255, n_256, n_300, n_400, n_600, n_1536, n_3980, n_4000, n_4001, n_4300, n_65536, l_0, l_1, l_2, l_3, l_4, l_10, l_48, l_63, l_255, l_300, nI_ltI, nI_leI, nI_eq, nI_clamp, nI_add, pk_sub, pk_mul, nI_ne1, ne1_nI, nI_pge, nI_nlt0, nI_l, lN_i, lN_add, lN_mul, lN_sub, pk_lLT, pk_lLE, pk_lEQ, lg_lt, lg_ge, lg_eq0, lg_le, lg_gt, lg_ltn, lg_gen, lg_eq0n, lg_len, lg_gtn, Nat.zero_le, Nat.not_lt_zero, not_false_eq_true, not_true_eq_false, true_and, and_true]; done) | (simp (maxSteps := 4000000) (disch := omega) only [n_0, n_1, n_2, n_3, n_4, n_5, n_6, n_7, n_8, n_9, n_10, n_11, n_12, n_13, n_14, n_15, n_16, n_18, n_20, n_24, n_31, n_32, n_34, n_40, n_41, n_44, n_45, n_47, n_48, n_57, n_58, n_59, n_61, n_63, n_64, n_65, n_68, n_90, n_91, n_93, n_95, n_97, n_100, n_122, n_123, n_125, n_128, n_144, n_200, n_255, n_256, n_300, n_400, n_600, n_1536, n_3980, n_4000, n_4001, n_4300, n_65536, l_0, l_1, l_2, l_3, l_4, l_10, l_48, l_63, l_255, l_300, nI_ltI, nI_leI, nI_eq, nI_clamp, nI_add, pk_sub, pk_mul, nI_ne1, ne1_nI, nI_pge, nI_nlt0, nI_l, lN_i, lN_add, lN_mul, lN_sub, pk_lLT, pk_lLE, pk_lEQ, lg_lt, lg_ge, lg_eq0, lg_le, lg_gt, lg_ltn, lg_gen, lg_eq0n, lg_len, lg_gtn, Nat.zero_le, Nat.not_lt_zero, not_false_eq_true, not_true_eq_false, true_and, and_true]; omega) | omega)) (o_pos a4 (o_bind ga (o_elim (o_pos ⟨by rw [hz0]; exact s9.1, by rw [hk0]; exact s9.2⟩ (o_bind hr0 (o_pos ⟨by rw [hz0]; exact s15.1, by rw [hk0]; exact s15.2⟩ (o_pos ⟨by rw [hz0]; exact k2.1, by rw [hk0]; exact k2.2⟩ (o_pos ⟨by rw [vS]; exact nI_pos' (by omega), by rw [vS, hn0, l36]; (first | (simp (maxSteps := 4000000) (disch := omega) only [n_0, n_1, n_2, n_3, n_4, n_5, n_6, n_7, n_8, n_9, n_10, n_11, n_12, n_13, n_14, n_15, n_16, n_18, n_20, n_24, n_31, n_32, n_34, n_40, n_41, n_44, n_45, n_47, n_48, n_57, n_58, n_59, n_61, n_63, n_64, n_65, n_68, n_90, n_91, n_93, n_95, n_97, n_100, n_122, n_123, n_125, n_128, n_144, n_200, n_255, n_256, n_300, n_400, n_600, n_1536, n_3980, n_4000, n_4001, n_4300, n_65536, l_0, l_1, l_2, l_3, l_4, l_10, l_48, l_63, l_255, l_300, nI_ltI, nI_leI, nI_eq, nI_clamp, nI_add, pk_sub, pk_mul, nI_ne1, ne1_nI, nI_pge, nI_nlt0, nI_l, lN_i, lN_add, lN_mul, lN_sub, pk_lLT, pk_lLE, pk_lEQ, lg_lt, lg_ge, lg_eq0, lg_le, lg_gt, lg_ltn, lg_gen, lg_eq0n, lg_len, lg_gtn, Nat.zero_le, Nat.not_lt_zero, not_false_eq_true, not_true_eq_false, true_and, and_true]; done) | (simp (maxSteps := 4000000) (disch := omega) only [n_0, n_1, n_2, n_3, n_4, n_5, n_6, n_7, n_8, n_9, n_10, n_11, n_12, n_13, n_14, n_15, n_16, n_18, n_20, n_24, n_31, n_32, n_34, n_40, n_41, n_44, n_45, n_47, n_48, n_57, n_58, n_59, n_61, n_63, n_64, n_65, n_68, n_90, n_91, n_93, n_95, n_97, n_100, n_122, n_123, n_125, n_128, n_144, n_200, n_255, n_256, n_300, n_400, n_600, n_1536, n_3980, n_4000, n_4001, n_4300, n_65536, l_0, l_1, l_2, l_3, l_4, l_10, l_48, l_63, l_255, l_300, nI_ltI, nI_leI, nI_eq, nI_clamp, nI_add, pk_sub, pk_mul, nI_ne1, ne1_nI, nI_pge, nI_nlt0, nI_l, lN_i, lN_add, lN_mul, lN_sub, pk_lLT, pk_lLE, pk_lEQ, lg_lt, lg_ge, lg_eq0, lg_le, lg_gt, lg_ltn, lg_gen, lg_eq0n, lg_len, lg_gtn, Nat.zero_le, Nat.not_lt_zero, not_false_eq_true, not_true_eq_false, true_and, and_true]; omega) | omega), by rw [hn0, l36]; decide⟩ (o_pos (by omega) (o_pos ⟨by rw [hz_hsr, hz0]; exact s9.1, by rw [hk_hsr, hk0]; exact s9.2⟩ ?_))))))))))
    show some (some ad, hsi (hsr v0 (S + 615) (Int32.toNatClampNeg (hi v0 S 4)) (some ad)) S 4 (hi (hsr v0 (S + 615) (Int32.toNatClampNeg (hi v0 S 4)) (some ad)) S 4 + 1)) = _
    rw [hi_hsr, vS, nI_clamp (show nd < 2 ^ 31 by omega), n_1, nI_add]
  · exact FRX.si (FRX.sr (F0.mono (fun _ _ z => z) (fun _ _ z => z) (fun _ _ z => z.elim)) ⟨rfl, rfl⟩) (Or.inr (Or.inr ⟨rfl, rfl⟩))
  · rw [hi_hsi_ne (by omega), hi_hsr, e0, hi_hsi_ne (by omega)]; exact ri
  · rw [hi_hsi_ne (by omega), hi_hsr, e0, hi_at]
  · rw [hi_at]
  · rw [hj_hsi, hj_hsr, e0, hj_hsi]; exact rj.1
  · rw [hj_hsi, hj_hsr, e0, hj_hsi]; exact rj.2
  · rw [hr_hsi, hr_hsr_eq]
theorem addTo_f {x y : Int64} (L : SC g S) (G : GR g a M F LN) (ea : hi g a 1 = nI e) (e4 : hi g S 4 = nI nd) (hnd : nd ≤ 36) (he : e = M) : f_s_addTo S a x y g = some (none, g) := by
  obtain ⟨d1, d2, d3, d4, d5, d6, d7, d8⟩ := G
  have s9 : S < hz g ∧ hk g S = 9 := ⟨by have := L.1; omega, L.2.2.1⟩
  have s15 : S + 615 < hz g ∧ hk g (S + 615) = 105 := ⟨by have := L.1; omega, L.2.2.2.2.2.2.2.1⟩
  have a4 : a < hz g ∧ hk g a = 4 := ⟨by omega, d4⟩
  have l36 : hn g (S + 615) = 36 := L.2.2.2.2.2.2.2.2.1
  have ga : f_g_add a x y g = some (none, g) := by
    unfold f_g_add
    rw [ea]
    refine o_pos a4 (o_neg (by (first | (simp (maxSteps := 4000000) (disch := omega) only [n_0, n_1, n_2, n_3, n_4, n_5, n_6, n_7, n_8, n_9, n_10, n_11, n_12, n_13, n_14, n_15, n_16, n_18, n_20, n_24, n_31, n_32, n_34, n_40, n_41, n_44, n_45, n_47, n_48, n_57, n_58, n_59, n_61, n_63, n_64, n_65, n_68, n_90, n_91, n_93, n_95, n_97, n_100, n_122, n_123, n_125, n_128, n_144, n_200, n_255, n_256, n_300, n_400, n_600, n_1536, n_3980, n_4000, n_4001, n_4300, n_65536, l_0, l_1, l_2, l_3, l_4, l_10, l_48, l_63, l_255, l_300, nI_ltI, nI_leI, nI_eq, nI_clamp, nI_add, pk_sub, pk_mul, nI_ne1, ne1_nI, nI_pge, nI_nlt0, nI_l, lN_i, lN_add, lN_mul, lN_sub, pk_lLT, pk_lLE, pk_lEQ, lg_lt, lg_ge, lg_eq0, lg_le, lg_gt, lg_ltn, lg_gen, lg_eq0n, lg_len, lg_gtn, Nat.zero_le, Nat.not_lt_zero, not_false_eq_true, not_true_eq_false, true_and, and_true]; done) | (simp (maxSteps := 4000000) (disch := omega) only [n_0, n_1, n_2, n_3, n_4, n_5, n_6, n_7, n_8, n_9, n_10, n_11, n_12, n_13, n_14, n_15, n_16, n_18, n_20, n_24, n_31, n_32, n_34, n_40, n_41, n_44, n_45, n_47, n_48, n_57, n_58, n_59, n_61, n_63, n_64, n_65, n_68, n_90, n_91, n_93, n_95, n_97, n_100, n_122, n_123, n_125, n_128, n_144, n_200, n_255, n_256, n_300, n_400, n_600, n_1536, n_3980, n_4000, n_4001, n_4300, n_65536, l_0, l_1, l_2, l_3, l_4, l_10, l_48, l_63, l_255, l_300, nI_ltI, nI_leI, nI_eq, nI_clamp, nI_add, pk_sub, pk_mul, nI_ne1, ne1_nI, nI_pge, nI_nlt0, nI_l, lN_i, lN_add, lN_mul, lN_sub, pk_lLT, pk_lLE, pk_lEQ, lg_lt, lg_ge, lg_eq0, lg_le, lg_gt, lg_ltn, lg_gen, lg_eq0n, lg_len, lg_gtn, Nat.zero_le, Nat.not_lt_zero, not_false_eq_true, not_true_eq_false, true_and, and_true]; omega) | omega)) (o_bind d5 (o_pos ⟨by omega, d6⟩ ?_)))
    rw [d7, he]
    exact o_neg Int32.lt_irrefl rfl
  unfold f_s_addTo
  rw [e4]
  refine o_pos s9 (o_neg (by (first | (simp (maxSteps := 4000000) (disch := omega) only [n_0, n_1, n_2, n_3, n_4, n_5, n_6, n_7, n_8, n_9, n_10, n_11, n_12, n_13, n_14, n_15, n_16, n_18, n_20, n_24, n_31, n_32, n_34, n_40, n_41, n_44, n_45, n_47, n_48, n_57, n_58, n_59, n_61, n_63, n_64, n_65, n_68, n_90, n_91, n_93, n_95, n_97, n_100, n_122, n_123, n_125, n_128, n_144, n_200, n_255, n_256, n_300, n_400, n_600, n_1536, n_3980, n_4000, n_4001, n_4300, n_65536, l_0, l_1, l_2, l_3, l_4, l_10, l_48, l_63, l_255, l_300, nI_ltI, nI_leI, nI_eq, nI_clamp, nI_add, pk_sub, pk_mul, nI_ne1, ne1_nI, nI_pge, nI_nlt0, nI_l, lN_i, lN_add, lN_mul, lN_sub, pk_lLT, pk_lLE, pk_lEQ, lg_lt, lg_ge, lg_eq0, lg_le, lg_gt, lg_ltn, lg_gen, lg_eq0n, lg_len, lg_gtn, Nat.zero_le, Nat.not_lt_zero, not_false_eq_true, not_true_eq_false, true_and, and_true]; done) | (simp (maxSteps := 4000000) (disch := omega) only [n_0, n_1, n_2, n_3, n_4, n_5, n_6, n_7, n_8, n_9, n_10, n_11, n_12, n_13, n_14, n_15, n_16, n_18, n_20, n_24, n_31, n_32, n_34, n_40, n_41, n_44, n_45, n_47, n_48, n_57, n_58, n_59, n_61, n_63, n_64, n_65, n_68, n_90, n_91, n_93, n_95, n_97, n_100, n_122, n_123, n_125, n_128, n_144, n_200, n_255, n_256, n_300, n_400, n_600, n_1536, n_3980, n_4000, n_4001, n_4300, n_65536, l_0, l_1, l_2, l_3, l_4, l_10, l_48, l_63, l_255, l_300, nI_ltI, nI_leI, nI_eq, nI_clamp, nI_add, pk_sub, pk_mul, nI_ne1, ne1_nI, nI_pge, nI_nlt0, nI_l, lN_i, lN_add, lN_mul, lN_sub, pk_lLT, pk_lLE, pk_lEQ, lg_lt, lg_ge, lg_eq0, lg_le, lg_gt, lg_ltn, lg_gen, lg_eq0n, lg_len, lg_gtn, Nat.zero_le, Nat.not_lt_zero, not_false_eq_true, not_true_eq_false, true_and, and_true]; omega) | omega)) (o_bind L.2.2.2.2.2.2.1 (o_pos s15 ?_)))
  rw [l36]
  by_cases q : nd < 36
  · exact o_pos (by (first | (simp (maxSteps := 4000000) (disch := omega) only [n_0, n_1, n_2, n_3, n_4, n_5, n_6, n_7, n_8, n_9, n_10, n_11, n_12, n_13, n_14, n_15, n_16, n_18, n_20, n_24, n_31, n_32, n_34, n_40, n_41, n_44, n_45, n_47, n_48, n_57, n_58, n_59, n_61, n_63, n_64, n_65, n_68, n_90, n_91, n_93, n_95, n_97, n_100, n_122, n_123, n_125, n_128, n_144, n_200, n_255, n_256, n_300, n_400, n_600, n_1536, n_3980, n_4000, n_4001, n_4300, n_65536, l_0, l_1, l_2, l_3, l_4, l_10, l_48, l_63, l_255, l_300, nI_ltI, nI_leI, nI_eq, nI_clamp, nI_add, pk_sub, pk_mul, nI_ne1, ne1_nI, nI_pge, nI_nlt0, nI_l, lN_i, lN_add, lN_mul, lN_sub, pk_lLT, pk_lLE, pk_lEQ, lg_lt, lg_ge, lg_eq0, lg_le, lg_gt, lg_ltn, lg_gen, lg_eq0n, lg_len, lg_gtn, Nat.zero_le, Nat.not_lt_zero, not_false_eq_true, not_true_eq_false, true_and, and_true]; done) | (simp (maxSteps := 4000000) (disch := omega) only [n_0, n_1, n_2, n_3, n_4, n_5, n_6, n_7, n_8, n_9, n_10, n_11, n_12, n_13, n_14, n_15, n_16, n_18, n_20, n_24, n_31, n_32, n_34, n_40, n_41, n_44, n_45, n_47, n_48, n_57, n_58, n_59, n_61, n_63, n_64, n_65, n_68, n_90, n_91, n_93, n_95, n_97, n_100, n_122, n_123, n_125, n_128, n_144, n_200, n_255, n_256, n_300, n_400, n_600, n_1536, n_3980, n_4000, n_4001, n_4300, n_65536, l_0, l_1, l_2, l_3, l_4, l_10, l_48, l_63, l_255, l_300, nI_ltI, nI_leI, nI_eq, nI_clamp, nI_add, pk_sub, pk_mul, nI_ne1, ne1_nI, nI_pge, nI_nlt0, nI_l, lN_i, lN_add, lN_mul, lN_sub, pk_lLT, pk_lLE, pk_lEQ, lg_lt, lg_ge, lg_eq0, lg_le, lg_gt, lg_ltn, lg_gen, lg_eq0n, lg_len, lg_gtn, Nat.zero_le, Nat.not_lt_zero, not_false_eq_true, not_true_eq_false, true_and, and_true]; omega) | omega)) (o_pos a4 (o_bind ga (o_elimn rfl)))
  · exact o_neg (by (first | (simp (maxSteps := 4000000) (disch := omega) only [n_0, n_1, n_2, n_3, n_4, n_5, n_6, n_7, n_8, n_9, n_10, n_11, n_12, n_13, n_14, n_15, n_16, n_18, n_20, n_24, n_31, n_32, n_34, n_40, n_41, n_44, n_45, n_47, n_48, n_57, n_58, n_59, n_61, n_63, n_64, n_65, n_68, n_90, n_91, n_93, n_95, n_97, n_100, n_122, n_123, n_125, n_128, n_144, n_200, n_255, n_256, n_300, n_400, n_600, n_1536, n_3980, n_4000, n_4001, n_4300, n_65536, l_0, l_1, l_2, l_3, l_4, l_10, l_48, l_63, l_255, l_300, nI_ltI, nI_leI, nI_eq, nI_clamp, nI_add, pk_sub, pk_mul, nI_ne1, ne1_nI, nI_pge, nI_nlt0, nI_l, lN_i, lN_add, lN_mul, lN_sub, pk_lLT, pk_lLE, pk_lEQ, lg_lt, lg_ge, lg_eq0, lg_le, lg_gt, lg_ltn, lg_gen, lg_eq0n, lg_len, lg_gtn, Nat.zero_le, Nat.not_lt_zero, not_false_eq_true, not_true_eq_false, true_and, and_true]; done) | (simp (maxSteps := 4000000) (disch := omega) only [n_0, n_1, n_2, n_3, n_4, n_5, n_6, n_7, n_8, n_9, n_10, n_11, n_12, n_13, n_14, n_15, n_16, n_18, n_20, n_24, n_31, n_32, n_34, n_40, n_41, n_44, n_45, n_47, n_48, n_57, n_58, n_59, n_61, n_63, n_64, n_65, n_68, n_90, n_91, n_93, n_95, n_97, n_100, n_122, n_123, n_125, n_128, n_144, n_200, n_255, n_256, n_300, n_400, n_600, n_1536, n_3980, n_4000, n_4001, n_4300, n_65536, l_0, l_1, l_2, l_3, l_4, l_10, l_48, l_63, l_255, l_300, nI_ltI, nI_leI, nI_eq, nI_clamp, nI_add, pk_sub, pk_mul, nI_ne1, ne1_nI, nI_pge, nI_nlt0, nI_l, lN_i, lN_add, lN_mul, lN_sub, pk_lLT, pk_lLE, pk_lEQ, lg_lt, lg_ge, lg_eq0, lg_le, lg_gt, lg_ltn, lg_gen, lg_eq0n, lg_len, lg_gtn, Nat.zero_le, Nat.not_lt_zero, not_false_eq_true, not_true_eq_false, true_and, and_true]; omega) | omega)) rfl
theorem SC.of (L : LY g) (hS : S = 12 ∨ S = 628) : SC g S := by
  rcases hS with q | q <;> subst q
  · exact L.2.2.2.2.2.1
  · exact L.2.2.2.2.2.2
/-- the class's new definition, and what the model sees -/
theorem newDef_c (A : ST T n c g h t S k) (B : BG T n c S t nd ns 0 nt 0 nu 0 na es et eu 0 g h) (N : CN S t nd ns nt nu na es et eu g h) (G : GR g a M F LN) (ea : hi g a 1 = nI e) (he : e ≤ M) (hnd : e < M → nd < 36) (had : ad = a + 2 + e * (F + 4)) (z1 : S < a) (z2 : a < ad) (z3 : e < M → ad < S + 615) : (∃ u, f_p_newDefinition t a g = some (some ad, u) ∧ e < M ∧ hi g 8 k = 2 ∧ f_m_isName h = some (1, h) ∧ f_m_definition (nI k) h = some (-1, h) ∧ ST T n c u (hsi h 1262 13 (nI (k + 1))) t S (k + 1) ∧ FRX (ndP S t a ad) (ndJ ad) (ndW S nd) g u ∧ (hi u ad 3 = 0 ∧ hi u ad 6 = 0 ∧ hi u ad 7 = 1 ∧ hi u ad 11 = 0) ∧ hi u a 1 = nI (e + 1) ∧ hi u S 4 = nI (nd + 1) ∧ hj u ad 4 = hj g 10 k ∧ hj u ad 5 = hj g 11 k ∧ hr u (S + 615) nd = some ad) ∨ (∃ u p, f_p_newDefinition t a g = some (none, u) ∧ FLT u p t ∧ FRM (tF t) g u ∧ FRM m14 h p ∧ ((f_m_isName h = some (0, h) ∧ f_m_misfit h = some ((), p)) ∨ (∃ d, d < nd ∧ f_m_isName h = some (1, h) ∧ f_m_definition (nI k) h = some (nI d, h) ∧ f_m_flaw 3 h = some ((), p)) ∨ (e = M ∧ f_m_isName h = some (1, h) ∧ f_m_definition (nI k) h = some (-1, h) ∧ f_m_flaw 4 h = some ((), p)))) := by
  have A' := A
  obtain ⟨P, K, kc', a5, a6, m13', m14'⟩ := A'
  obtain ⟨L, t17, -, hS, -⟩ := P
  have sc := SC.of L hS
  have c4 := K.2.2.2.1
  have hd : f_x_head (hi g t 5) g = some (hj g 10 k, g) := by rw [a5]; exact e_x_head (u := g) K kc' rfl
  have tl : f_x_tail (hi g t 5) g = some (hj g 11 k, g) := by rw [a5]; exact e_x_tail (u := g) K kc' rfl
  have tk := A.1.tk
  have h0 : hr g t 0 = some 7 := A.1.2.2.2.2.2.1
  have h1 : hr g t 1 = some S := A.1.2.2.2.2.2.2.1
  have s9 : S < hz g ∧ hk g S = 9 := ⟨by have := sc.1; omega, sc.2.2.1⟩
  obtain ⟨M0, -, D, -, -, -, -, -, -, -, -, ⟨l1, l2, l3, l4, l5, l6, l7, l8, l9, l10, -⟩⟩ := B
  rcases e_m_isName A with ⟨q, m1⟩ | ⟨q, m1⟩
  · have n1 : ¬ hi g 8 k = 1 := by rw [q]; decide
    have cc : ∀ X : Option (Option Nat × XH), ∀ r : Option Nat, f_s_named S (hj g 10 k) (hj g 11 k) g = some (r, g) → (Option.elim r (if t < hz g ∧ hk g t = 7 then (Option.bind (hr g t 1) fun b25 => (Option.bind (hr g t 0) fun b27 => (if b27 = 7 then (Option.bind (f_x_head (hi g t 5) g) fun r30 => (if t < hz r30.2 ∧ hk r30.2 t = 7 then (Option.bind (hr r30.2 t 0) fun b34 => (if b34 = 7 then (Option.bind (f_x_tail (hi r30.2 t 5) r30.2) fun r37 => (if b25 < hz r37.2 ∧ hk r37.2 b25 = 9 then (Option.bind (f_s_addTo b25 a r30.1 r37.1 r37.2) fun r41 => (Option.elim (r41.1) (if t < hz r41.2 ∧ hk r41.2 t = 7 then (Option.bind (f_p_fail t 4 r41.2) fun r47 => (some (none, r47.2))) else none) fun b45 => (if t < hz r41.2 ∧ hk r41.2 t = 7 then (Option.bind (f_p_advance t r41.2) fun r51 => (some (some b45, r51.2))) else none))) else none)) else none)) else none)) else none))) else none) fun b23 => (if t < hz g ∧ hk g t = 7 then (Option.bind (f_p_fail t 3 g) fun r55 => (some (none, r55.2))) else none)) = X → f_p_newDefinition t a g = X := by
      intro X r e1 e2
      unfold f_p_newDefinition
      exact o_pos tk (o_pos (by rw [a6]; exact q) (o_bind h1 (o_bind h0 (o_pos rfl (o_bind hd (o_pos tk (o_bind h0 (o_pos rfl (o_bind tl (o_pos s9 (o_bind e1 e2)))))))))))
    have c2 : ∀ X : Option (Option Nat × XH), ∀ (r : Option Nat) (v : XH), f_s_named S (hj g 10 k) (hj g 11 k) g = some (none, g) → f_s_addTo S a (hj g 10 k) (hj g 11 k) g = some (r, v) → (Option.elim r (if t < hz v ∧ hk v t = 7 then (Option.bind (f_p_fail t 4 v) fun r47 => (some (none, r47.2))) else none) fun b45 => (if t < hz v ∧ hk v t = 7 then (Option.bind (f_p_advance t v) fun r51 => (some (some b45, r51.2))) else none)) = X → f_p_newDefinition t a g = X := by
      intro X r v e1 e2 e3
      exact cc X none e1 (o_elimn (o_pos tk (o_bind h1 (o_bind h0 (o_pos rfl (o_bind hd (o_pos tk (o_bind h0 (o_pos rfl (o_bind tl (o_pos s9 (o_bind e2 e3))))))))))))
    rcases named2 M0 K sc l3 l6 l9 l10 D N.1 N.2.1 kc' q with ⟨w1, w2⟩ | ⟨d, ad', so, no, w0, wd, w1, w2, -⟩
    · by_cases ce : e < M
      · obtain ⟨v, v1, v2, v3, v4, v5, v6, v7, v8⟩ := addTo_c (x := hj g 10 k) (y := hj g 11 k) sc hS G ea N.1 (hnd ce) ce had z1 z2 (z3 ce)
        have z4 := z3 ce
        have ST1 : ST T n c v h t S k := A.con (v2.mono (fun a' k z => by unfold ndC at z; unfold xP; omega) (fun a' k z => by unfold ndJ at z; unfold xJ; omega) (fun a' k z => by unfold ndW at z; unfold wW; omega)) FRX.refl
        have nq : ¬ (hi v 8 k = 0 ∨ hi v 8 k = 1) := by
          rw [v2.at (by unfold ndC; omega), q]
          decide
        have av := e_p_advance ST1 nq
        have at0 : ∀ b, b ≠ t → hi (hsi (hsi v t 5 (nI (k + 1))) t 6 (hi v 8 (k + 1))) b = hi v b := fun b hb => by rw [hi_hsi_ne hb, hi_hsi_ne hb]
        refine Or.inl ⟨_, c2 _ _ _ w1 v1 (o_elim (o_pos ST1.1.tk (o_bind av rfl))), ce, q, m1, w2, ST1.nx nq, ?_, ?_, ?_, ?_, ?_, ?_, ?_⟩
        · exact FRX.si (FRX.si (v2.mono (fun a' k z => Or.inl z) (fun a' k z => z) (fun _ _ z => z)) (Or.inr ⟨rfl, Or.inl rfl⟩)) (Or.inr ⟨rfl, Or.inr rfl⟩)
        · rw [at0 ad (by omega)]; exact v3
        · rw [at0 a (by omega)]; exact v4
        · rw [at0 S (by omega)]; exact v5
        · rw [hj_hsi, hj_hsi]; exact v6
        · rw [hj_hsi, hj_hsi]; exact v7
        · rw [hr_hsi, hr_hsi]; exact v8
      · obtain ⟨u, p, s1, s2, s3, s4, s5, s6⟩ := A.fl (x := 4) n1 (by decide)
        exact Or.inr ⟨u, p, c2 _ _ _ w1 (addTo_f sc G ea N.1 (by omega) (by omega)) (o_elimn (o_pos tk (o_bind s1 rfl))), s3, s4, s5, Or.inr (Or.inr ⟨by omega, m1, w2, s2⟩)⟩
    · obtain ⟨u, p, s1, s2, s3, s4, s5, s6⟩ := A.fl (x := 3) n1 (by decide)
      exact Or.inr ⟨u, p, cc _ _ w1 (o_elim (o_pos tk (o_bind s1 rfl))), s3, s4, s5, Or.inr (Or.inl ⟨d, w0, m1, w2, s2⟩)⟩
  · obtain ⟨u, p, s1, s2, s3, s4, s5, s6⟩ := A.mis
    refine Or.inr ⟨u, p, ?_, s3, s4, s5, Or.inl ⟨m1, s2⟩⟩
    unfold f_p_newDefinition
    exact o_pos tk (o_neg (by rw [a6]; exact q) (o_bind s1 rfl))
end Nd
