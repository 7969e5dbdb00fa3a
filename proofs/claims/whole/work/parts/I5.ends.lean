/-! schema(): the model around its parse, the class behind it -/

def END7 (h : XH) : Option (Int32 × XH) := (Option.bind (f_m_parse (hsi (hsi h 1262 5 (hi h 1262 2)) 1262 2 0)) fun r14 => (if ¬ (hi r14.2 1262 14) = 0 then (b_m_schema_74 (hi r14.2 1262 15) (hsi r14.2 1262 50 (hi r14.2 1262 14))) else (b_m_schema_74 0 (hsi r14.2 1262 50 (hi r14.2 1262 14)))))
def END140 (h : XH) : Option (Int32 × XH) := (Option.bind (f_m_empty (hsi (hsi h 1262 6 (hi h 1262 5)) 1262 7 1)) fun r2 => (some ((hi r2.2 1262 31), (hsi r2.2 1262 81 0))))
def END99 (h : XH) : Option (Int32 × XH) := (if (hi h 1262 7) = 0 then (some (0, h)) else (Option.bind (f_m_parse h) fun r8 => (some (0, r8.2))))
section Cy
variable {n : Nat} {h p : XH} {T : Nat → Nat}
theorem copy7 (n4 : n ≤ 4000) : ∀ (m k F : Nat) (h : XH), k + m = n → m < F → hi h 1262 2 = nI n → ∃ q, b_m_schema_7 F (nI k) h = END7 q ∧ FRX (fun a j => a = 1264 ∧ k ≤ j) nW nW h q ∧ ∀ j, k ≤ j → j < n → hi q 1264 j = hi h 1263 j := by
  intro m
  induction m with
  | zero =>
    intro k F h e hF e2
    obtain ⟨fu, rfl, -⟩ := fuel_pos hF
    refine ⟨h, ?_, FRX.refl, fun j h1 h2 => by omega⟩
    show s_m_schema_7 (b_m_schema_7 fu) _ _ = _
    unfold s_m_schema_7
    exact o_pos (by rw [e2]; (first | (simp (maxSteps := 4000000) (disch := omega) only [n_0, n_1, n_2, n_3, n_4, n_5, n_6, n_7, n_8, n_9, n_10, n_11, n_12, n_13, n_14, n_15, n_16, n_18, n_20, n_24, n_31, n_32, n_34, n_40, n_41, n_44, n_45, n_47, n_48, n_57, n_58, n_59, n_61, n_63, n_64, n_65, n_68, n_90, n_91, n_93, n_95, n_97, n_100, n_122, n_123, n_125, n_128, n_144, n_200, n_255, n_256, n_300, n_400, n_600, n_1536, n_3980, n_4000, n_4001, n_4300, n_65536, l_0, l_1, l_2, l_3, l_4, l_10, l_48, l_63, l_255, l_300, nI_ltI, nI_leI, nI_eq, nI_clamp, nI_add, pk_sub, pk_mul, nI_ne1, ne1_nI, nI_pge, nI_nlt0, nI_l, lN_i, lN_add, lN_mul, lN_sub, pk_lLT, pk_lLE, pk_lEQ, lg_lt, lg_ge, lg_eq0, lg_le, lg_gt, lg_ltn, lg_gen, lg_eq0n, lg_len, lg_gtn, Nat.zero_le, Nat.not_lt_zero, not_false_eq_true, not_true_eq_false, true_and, and_true]; done) | (simp (maxSteps := 4000000) (disch := omega) only [n_0, n_1, n_2, n_3, n_4, n_5, n_6, n_7, n_8, n_9, n_10, n_11, n_12, n_13, n_14, n_15, n_16, n_18, n_20, n_24, n_31, n_32, n_34, n_40, n_41, n_44, n_45, n_47, n_48, n_57, n_58, n_59, n_61, n_63, n_64, n_65, n_68, n_90, n_91, n_93, n_95, n_97, n_100, n_122, n_123, n_125, n_128, n_144, n_200, n_255, n_256, n_300, n_400, n_600, n_1536, n_3980, n_4000, n_4001, n_4300, n_65536, l_0, l_1, l_2, l_3, l_4, l_10, l_48, l_63, l_255, l_300, nI_ltI, nI_leI, nI_eq, nI_clamp, nI_add, pk_sub, pk_mul, nI_ne1, ne1_nI, nI_pge, nI_nlt0, nI_l, lN_i, lN_add, lN_mul, lN_sub, pk_lLT, pk_lLE, pk_lEQ, lg_lt, lg_ge, lg_eq0, lg_le, lg_gt, lg_ltn, lg_gen, lg_eq0n, lg_len, lg_gtn, Nat.zero_le, Nat.not_lt_zero, not_false_eq_true, not_true_eq_false, true_and, and_true]; omega) | omega)) rfl
  | succ m ih =>
    intro k F h e hF e2
    obtain ⟨fu, rfl, -⟩ := fuel_pos hF
    obtain ⟨h1, eh⟩ : ∃ h1, h1 = hsi h 1264 k (hi h 1263 k) := ⟨_, rfl⟩
    obtain ⟨q, q1, q2, q3⟩ := ih (k + 1) fu h1 (by omega) (by omega) (by rw [eh, hi_hsi_ne (by decide)]; exact e2)
    refine ⟨q, ?_, ?_, fun j h1' h2' => ?_⟩
    · show s_m_schema_7 (b_m_schema_7 fu) _ _ = _
      unfold s_m_schema_7
      refine o_neg (by rw [e2]; (first | (simp (maxSteps := 4000000) (disch := omega) only [n_0, n_1, n_2, n_3, n_4, n_5, n_6, n_7, n_8, n_9, n_10, n_11, n_12, n_13, n_14, n_15, n_16, n_18, n_20, n_24, n_31, n_32, n_34, n_40, n_41, n_44, n_45, n_47, n_48, n_57, n_58, n_59, n_61, n_63, n_64, n_65, n_68, n_90, n_91, n_93, n_95, n_97, n_100, n_122, n_123, n_125, n_128, n_144, n_200, n_255, n_256, n_300, n_400, n_600, n_1536, n_3980, n_4000, n_4001, n_4300, n_65536, l_0, l_1, l_2, l_3, l_4, l_10, l_48, l_63, l_255, l_300, nI_ltI, nI_leI, nI_eq, nI_clamp, nI_add, pk_sub, pk_mul, nI_ne1, ne1_nI, nI_pge, nI_nlt0, nI_l, lN_i, lN_add, lN_mul, lN_sub, pk_lLT, pk_lLE, pk_lEQ, lg_lt, lg_ge, lg_eq0, lg_le, lg_gt, lg_ltn, lg_gen, lg_eq0n, lg_len, lg_gtn, Nat.zero_le, Nat.not_lt_zero, not_false_eq_true, not_true_eq_false, true_and, and_true]; done) | (simp (maxSteps := 4000000) (disch := omega) only [n_0, n_1, n_2, n_3, n_4, n_5, n_6, n_7, n_8, n_9, n_10, n_11, n_12, n_13, n_14, n_15, n_16, n_18, n_20, n_24, n_31, n_32, n_34, n_40, n_41, n_44, n_45, n_47, n_48, n_57, n_58, n_59, n_61, n_63, n_64, n_65, n_68, n_90, n_91, n_93, n_95, n_97, n_100, n_122, n_123, n_125, n_128, n_144, n_200, n_255, n_256, n_300, n_400, n_600, n_1536, n_3980, n_4000, n_4001, n_4300, n_65536, l_0, l_1, l_2, l_3, l_4, l_10, l_48, l_63, l_255, l_300, nI_ltI, nI_leI, nI_eq, nI_clamp, nI_add, pk_sub, pk_mul, nI_ne1, ne1_nI, nI_pge, nI_nlt0, nI_l, lN_i, lN_add, lN_mul, lN_sub, pk_lLT, pk_lLE, pk_lEQ, lg_lt, lg_ge, lg_eq0, lg_le, lg_gt, lg_ltn, lg_gen, lg_eq0n, lg_len, lg_gtn, Nat.zero_le, Nat.not_lt_zero, not_false_eq_true, not_true_eq_false, true_and, and_true]; omega) | omega)) (o_pos ⟨nI_pos' (by omega), by (first | (simp (maxSteps := 4000000) (disch := omega) only [n_0, n_1, n_2, n_3, n_4, n_5, n_6, n_7, n_8, n_9, n_10, n_11, n_12, n_13, n_14, n_15, n_16, n_18, n_20, n_24, n_31, n_32, n_34, n_40, n_41, n_44, n_45, n_47, n_48, n_57, n_58, n_59, n_61, n_63, n_64, n_65, n_68, n_90, n_91, n_93, n_95, n_97, n_100, n_122, n_123, n_125, n_128, n_144, n_200, n_255, n_256, n_300, n_400, n_600, n_1536, n_3980, n_4000, n_4001, n_4300, n_65536, l_0, l_1, l_2, l_3, l_4, l_10, l_48, l_63, l_255, l_300, nI_ltI, nI_leI, nI_eq, nI_clamp, nI_add, pk_sub, pk_mul, nI_ne1, ne1_nI, nI_pge, nI_nlt0, nI_l, lN_i, lN_add, lN_mul, lN_sub, pk_lLT, pk_lLE, pk_lEQ, lg_lt, lg_ge, lg_eq0, lg_le, lg_gt, lg_ltn, lg_gen, lg_eq0n, lg_len, lg_gtn, Nat.zero_le, Nat.not_lt_zero, not_false_eq_true, not_true_eq_false, true_and, and_true]; done) | (simp (maxSteps := 4000000) (disch := omega) only [n_0, n_1, n_2, n_3, n_4, n_5, n_6, n_7, n_8, n_9, n_10, n_11, n_12, n_13, n_14, n_15, n_16, n_18, n_20, n_24, n_31, n_32, n_34, n_40, n_41, n_44, n_45, n_47, n_48, n_57, n_58, n_59, n_61, n_63, n_64, n_65, n_68, n_90, n_91, n_93, n_95, n_97, n_100, n_122, n_123, n_125, n_128, n_144, n_200, n_255, n_256, n_300, n_400, n_600, n_1536, n_3980, n_4000, n_4001, n_4300, n_65536, l_0, l_1, l_2, l_3, l_4, l_10, l_48, l_63, l_255, l_300, nI_ltI, nI_leI, nI_eq, nI_clamp, nI_add, pk_sub, pk_mul, nI_ne1, ne1_nI, nI_pge, nI_nlt0, nI_l, lN_i, lN_add, lN_mul, lN_sub, pk_lLT, pk_lLE, pk_lEQ, lg_lt, lg_ge, lg_eq0, lg_le, lg_gt, lg_ltn, lg_gen, lg_eq0n, lg_len, lg_gtn, Nat.zero_le, Nat.not_lt_zero, not_false_eq_true, not_true_eq_false, true_and, and_true]; omega) | omega)⟩ ?_)
      rw [nI_clamp (show k < 2 ^ 31 by omega), ← eh, n_1, nI_add]
      exact q1
    · have F1 : FRX (fun a j => a = 1264 ∧ k ≤ j) nW nW h h1 := by rw [eh]; exact FRX.refl.si ⟨rfl, Nat.le_refl _⟩
      exact F1.trans (q2.mono (fun a j z => ⟨z.1, by omega⟩) (fun _ _ z => z) (fun _ _ z => z))
    · by_cases cj : j = k
      · rw [cj, q2.at (by omega), eh, hi_at]
      · rw [q3 j (by omega) h2', eh, hi_hsi_ne (by decide)]
theorem copy140 (n4 : n ≤ 4000) : ∀ (m k F : Nat) (h : XH), k + m = n → m < F → hi h 1262 5 = nI n → ∃ q, b_m_schema_140 F (nI k) h = END140 q ∧ FRX (fun a j => a = 1265 ∧ k ≤ j) nW nW h q ∧ ∀ j, k ≤ j → j < n → hi q 1265 j = hi h 1264 j := by
  intro m
  induction m with
  | zero =>
    intro k F h e hF e2
    obtain ⟨fu, rfl, -⟩ := fuel_pos hF
    refine ⟨h, ?_, FRX.refl, fun j h1 h2 => by omega⟩
    show s_m_schema_140 (b_m_schema_140 fu) _ _ = _
    unfold s_m_schema_140
    exact o_pos (by rw [e2]; (first | (simp (maxSteps := 4000000) (disch := omega) only [n_0, n_1, n_2, n_3, n_4, n_5, n_6, n_7, n_8, n_9, n_10, n_11, n_12, n_13, n_14, n_15, n_16, n_18, n_20, n_24, n_31, n_32, n_34, n_40, n_41, n_44, n_45, n_47, n_48, n_57, n_58, n_59, n_61, n_63, n_64, n_65, n_68, n_90, n_91, n_93, n_95, n_97, n_100, n_122, n_123, n_125, n_128, n_144, n_200, n_255, n_256, n_300, n_400, n_600, n_1536, n_3980, n_4000, n_4001, n_4300, n_65536, l_0, l_1, l_2, l_3, l_4, l_10, l_48, l_63, l_255, l_300, nI_ltI, nI_leI, nI_eq, nI_clamp, nI_add, pk_sub, pk_mul, nI_ne1, ne1_nI, nI_pge, nI_nlt0, nI_l, lN_i, lN_add, lN_mul, lN_sub, pk_lLT, pk_lLE, pk_lEQ, lg_lt, lg_ge, lg_eq0, lg_le, lg_gt, lg_ltn, lg_gen, lg_eq0n, lg_len, lg_gtn, Nat.zero_le, Nat.not_lt_zero, not_false_eq_true, not_true_eq_false, true_and, and_true]; done) | (simp (maxSteps := 4000000) (disch := omega) only [n_0, n_1, n_2, n_3, n_4, n_5, n_6, n_7, n_8, n_9, n_10, n_11, n_12, n_13, n_14, n_15, n_16, n_18, n_20, n_24, n_31, n_32, n_34, n_40, n_41, n_44, n_45, n_47, n_48, n_57, n_58, n_59, n_61, n_63, n_64, n_65, n_68, n_90, n_91, n_93, n_95, n_97, n_100, n_122, n_123, n_125, n_128, n_144, n_200, n_255, n_256, n_300, n_400, n_600, n_1536, n_3980, n_4000, n_4001, n_4300, n_65536, l_0, l_1, l_2, l_3, l_4, l_10, l_48, l_63, l_255, l_300, nI_ltI, nI_leI, nI_eq, nI_clamp, nI_add, pk_sub, pk_mul, nI_ne1, ne1_nI, nI_pge, nI_nlt0, nI_l, lN_i, lN_add, lN_mul, lN_sub, pk_lLT, pk_lLE, pk_lEQ, lg_lt, lg_ge, lg_eq0, lg_le, lg_gt, lg_ltn, lg_gen, lg_eq0n, lg_len, lg_gtn, Nat.zero_le, Nat.not_lt_zero, not_false_eq_true, not_true_eq_false, true_and, and_true]; omega) | omega)) rfl
  | succ m ih =>
    intro k F h e hF e2
    obtain ⟨fu, rfl, -⟩ := fuel_pos hF
    obtain ⟨h1, eh⟩ : ∃ h1, h1 = hsi h 1265 k (hi h 1264 k) := ⟨_, rfl⟩
    obtain ⟨q, q1, q2, q3⟩ := ih (k + 1) fu h1 (by omega) (by omega) (by rw [eh, hi_hsi_ne (by decide)]; exact e2)
    refine ⟨q, ?_, ?_, fun j h1' h2' => ?_⟩
    · show s_m_schema_140 (b_m_schema_140 fu) _ _ = _
      unfold s_m_schema_140
      refine o_neg (by rw [e2]; (first | (simp (maxSteps := 4000000) (disch := omega) only [n_0, n_1, n_2, n_3, n_4, n_5, n_6, n_7, n_8, n_9, n_10, n_11, n_12, n_13, n_14, n_15, n_16, n_18, n_20, n_24, n_31, n_32, n_34, n_40, n_41, n_44, n_45, n_47, n_48, n_57, n_58, n_59, n_61, n_63, n_64, n_65, n_68, n_90, n_91, n_93, n_95, n_97, n_100, n_122, n_123, n_125, n_128, n_144, n_200, n_255, n_256, n_300, n_400, n_600, n_1536, n_3980, n_4000, n_4001, n_4300, n_65536, l_0, l_1, l_2, l_3, l_4, l_10, l_48, l_63, l_255, l_300, nI_ltI, nI_leI, nI_eq, nI_clamp, nI_add, pk_sub, pk_mul, nI_ne1, ne1_nI, nI_pge, nI_nlt0, nI_l, lN_i, lN_add, lN_mul, lN_sub, pk_lLT, pk_lLE, pk_lEQ, lg_lt, lg_ge, lg_eq0, lg_le, lg_gt, lg_ltn, lg_gen, lg_eq0n, lg_len, lg_gtn, Nat.zero_le, Nat.not_lt_zero, not_false_eq_true, not_true_eq_false, true_and, and_true]; done) | (simp (maxSteps := 4000000) (disch := omega) only [n_0, n_1, n_2, n_3, n_4, n_5, n_6, n_7, n_8, n_9, n_10, n_11, n_12, n_13, n_14, n_15, n_16, n_18, n_20, n_24, n_31, n_32, n_34, n_40, n_41, n_44, n_45, n_47, n_48, n_57, n_58, n_59, n_61, n_63, n_64, n_65, n_68, n_90, n_91, n_93, n_95, n_97, n_100, n_122, n_123, n_125, n_128, n_144, n_200, n_255, n_256, n_300, n_400, n_600, n_1536, n_3980, n_4000, n_4001, n_4300, n_65536, l_0, l_1, l_2, l_3, l_4, l_10, l_48, l_63, l_255, l_300, nI_ltI, nI_leI, nI_eq, nI_clamp, nI_add, pk_sub, pk_mul, nI_ne1, ne1_nI, nI_pge, nI_nlt0, nI_l, lN_i, lN_add, lN_mul, lN_sub, pk_lLT, pk_lLE, pk_lEQ, lg_lt, lg_ge, lg_eq0, lg_le, lg_gt, lg_ltn, lg_gen, lg_eq0n, lg_len, lg_gtn, Nat.zero_le, Nat.not_lt_zero, not_false_eq_true, not_true_eq_false, true_and, and_true]; omega) | omega)) (o_pos ⟨nI_pos' (by omega), by (first | (simp (maxSteps := 4000000) (disch := omega) only [n_0, n_1, n_2, n_3, n_4, n_5, n_6, n_7, n_8, n_9, n_10, n_11, n_12, n_13, n_14, n_15, n_16, n_18, n_20, n_24, n_31, n_32, n_34, n_40, n_41, n_44, n_45, n_47, n_48, n_57, n_58, n_59, n_61, n_63, n_64, n_65, n_68, n_90, n_91, n_93, n_95, n_97, n_100, n_122, n_123, n_125, n_128, n_144, n_200, n_255, n_256, n_300, n_400, n_600, n_1536, n_3980, n_4000, n_4001, n_4300, n_65536, l_0, l_1, l_2, l_3, l_4, l_10, l_48, l_63, l_255, l_300, nI_ltI, nI_leI, nI_eq, nI_clamp, nI_add, pk_sub, pk_mul, nI_ne1, ne1_nI, nI_pge, nI_nlt0, nI_l, lN_i, lN_add, lN_mul, lN_sub, pk_lLT, pk_lLE, pk_lEQ, lg_lt, lg_ge, lg_eq0, lg_le, lg_gt, lg_ltn, lg_gen, lg_eq0n, lg_len, lg_gtn, Nat.zero_le, Nat.not_lt_zero, not_false_eq_true, not_true_eq_false, true_and, and_true]; done) | (simp (maxSteps := 4000000) (disch := omega) only [n_0, n_1, n_2, n_3, n_4, n_5, n_6, n_7, n_8, n_9, n_10, n_11, n_12, n_13, n_14, n_15, n_16, n_18, n_20, n_24, n_31, n_32, n_34, n_40, n_41, n_44, n_45, n_47, n_48, n_57, n_58, n_59, n_61, n_63, n_64, n_65, n_68, n_90, n_91, n_93, n_95, n_97, n_100, n_122, n_123, n_125, n_128, n_144, n_200, n_255, n_256, n_300, n_400, n_600, n_1536, n_3980, n_4000, n_4001, n_4300, n_65536, l_0, l_1, l_2, l_3, l_4, l_10, l_48, l_63, l_255, l_300, nI_ltI, nI_leI, nI_eq, nI_clamp, nI_add, pk_sub, pk_mul, nI_ne1, ne1_nI, nI_pge, nI_nlt0, nI_l, lN_i, lN_add, lN_mul, lN_sub, pk_lLT, pk_lLE, pk_lEQ, lg_lt, lg_ge, lg_eq0, lg_le, lg_gt, lg_ltn, lg_gen, lg_eq0n, lg_len, lg_gtn, Nat.zero_le, Nat.not_lt_zero, not_false_eq_true, not_true_eq_false, true_and, and_true]; omega) | omega)⟩ ?_)
      rw [nI_clamp (show k < 2 ^ 31 by omega), ← eh, n_1, nI_add]
      exact q1
    · have F1 : FRX (fun a j => a = 1265 ∧ k ≤ j) nW nW h h1 := by rw [eh]; exact FRX.refl.si ⟨rfl, Nat.le_refl _⟩
      exact F1.trans (q2.mono (fun a j z => ⟨z.1, by omega⟩) (fun _ _ z => z) (fun _ _ z => z))
    · by_cases cj : j = k
      · rw [cj, q2.at (by omega), eh, hi_at]
      · rw [q3 j (by omega) h2', eh, hi_hsi_ne (by decide)]
theorem copy99 (n4 : n ≤ 4000) : ∀ (m k F : Nat) (h : XH), k + m = n → m < F → hi h 1262 5 = nI n → ∃ q, b_m_schema_99 F (nI k) h = END99 q ∧ FRX (fun a j => a = 1264 ∧ k ≤ j) nW nW h q ∧ ∀ j, k ≤ j → j < n → hi q 1264 j = hi h 1265 j := by
  intro m
  induction m with
  | zero =>
    intro k F h e hF e2
    obtain ⟨fu, rfl, -⟩ := fuel_pos hF
    refine ⟨h, ?_, FRX.refl, fun j h1 h2 => by omega⟩
    show s_m_schema_99 (b_m_schema_99 fu) _ _ = _
    unfold s_m_schema_99
    exact o_pos (by rw [e2]; (first | (simp (maxSteps := 4000000) (disch := omega) only [n_0, n_1, n_2, n_3, n_4, n_5, n_6, n_7, n_8, n_9, n_10, n_11, n_12, n_13, n_14, n_15, n_16, n_18, n_20, n_24, n_31, n_32, n_34, n_40, n_41, n_44, n_45, n_47, n_48, n_57, n_58, n_59, n_61, n_63, n_64, n_65, n_68, n_90, n_91, n_93, n_95, n_97, n_100, n_122, n_123, n_125, n_128, n_144, n_200, n_255, n_256, n_300, n_400, n_600, n_1536, n_3980, n_4000, n_4001, n_4300, n_65536, l_0, l_1, l_2, l_3, l_4, l_10, l_48, l_63, l_255, l_300, nI_ltI, nI_leI, nI_eq, nI_clamp, nI_add, pk_sub, pk_mul, nI_ne1, ne1_nI, nI_pge, nI_nlt0, nI_l, lN_i, lN_add, lN_mul, lN_sub, pk_lLT, pk_lLE, pk_lEQ, lg_lt, lg_ge, lg_eq0, lg_le, lg_gt, lg_ltn, lg_gen, lg_eq0n, lg_len, lg_gtn, Nat.zero_le, Nat.not_lt_zero, not_false_eq_true, not_true_eq_false, true_and, and_true]; done) | (simp (maxSteps := 4000000) (disch := omega) only [n_0, n_1, n_2, n_3, n_4, n_5, n_6, n_7, n_8, n_9, n_10, n_11, n_12, n_13, n_14, n_15, n_16, n_18, n_20, n_24, n_31, n_32, n_34, n_40, n_41, n_44, n_45, n_47, n_48, n_57, n_58, n_59, n_61, n_63, n_64, n_65, n_68, n_90, n_91, n_93, n_95, n_97, n_100, n_122, n_123, n_125, n_128, n_144, n_200, n_255, n_256, n_300, n_400, n_600, n_1536, n_3980, n_4000, n_4001, n_4300, n_65536, l_0, l_1, l_2, l_3, l_4, l_10, l_48, l_63, l_255, l_300, nI_ltI, nI_leI, nI_eq, nI_clamp, nI_add, pk_sub, pk_mul, nI_ne1, ne1_nI, nI_pge, nI_nlt0, nI_l, lN_i, lN_add, lN_mul, lN_sub, pk_lLT, pk_lLE, pk_lEQ, lg_lt, lg_ge, lg_eq0, lg_le, lg_gt, lg_ltn, lg_gen, lg_eq0n, lg_len, lg_gtn, Nat.zero_le, Nat.not_lt_zero, not_false_eq_true, not_true_eq_false, true_and, and_true]; omega) | omega)) rfl
  | succ m ih =>
    intro k F h e hF e2
    obtain ⟨fu, rfl, -⟩ := fuel_pos hF
    obtain ⟨h1, eh⟩ : ∃ h1, h1 = hsi h 1264 k (hi h 1265 k) := ⟨_, rfl⟩
    obtain ⟨q, q1, q2, q3⟩ := ih (k + 1) fu h1 (by omega) (by omega) (by rw [eh, hi_hsi_ne (by decide)]; exact e2)
    refine ⟨q, ?_, ?_, fun j h1' h2' => ?_⟩
    · show s_m_schema_99 (b_m_schema_99 fu) _ _ = _
      unfold s_m_schema_99
      refine o_neg (by rw [e2]; (first | (simp (maxSteps := 4000000) (disch := omega) only [n_0, n_1, n_2, n_3, n_4, n_5, n_6, n_7, n_8, n_9, n_10, n_11, n_12, n_13, n_14, n_15, n_16, n_18, n_20, n_24, n_31, n_32, n_34, n_40, n_41, n_44, n_45, n_47, n_48, n_57, n_58, n_59, n_61, n_63, n_64, n_65, n_68, n_90, n_91, n_93, n_95, n_97, n_100, n_122, n_123, n_125, n_128, n_144, n_200, n_255, n_256, n_300, n_400, n_600, n_1536, n_3980, n_4000, n_4001, n_4300, n_65536, l_0, l_1, l_2, l_3, l_4, l_10, l_48, l_63, l_255, l_300, nI_ltI, nI_leI, nI_eq, nI_clamp, nI_add, pk_sub, pk_mul, nI_ne1, ne1_nI, nI_pge, nI_nlt0, nI_l, lN_i, lN_add, lN_mul, lN_sub, pk_lLT, pk_lLE, pk_lEQ, lg_lt, lg_ge, lg_eq0, lg_le, lg_gt, lg_ltn, lg_gen, lg_eq0n, lg_len, lg_gtn, Nat.zero_le, Nat.not_lt_zero, not_false_eq_true, not_true_eq_false, true_and, and_true]; done) | (simp (maxSteps := 4000000) (disch := omega) only [n_0, n_1, n_2, n_3, n_4, n_5, n_6, n_7, n_8, n_9, n_10, n_11, n_12, n_13, n_14, n_15, n_16, n_18, n_20, n_24, n_31, n_32, n_34, n_40, n_41, n_44, n_45, n_47, n_48, n_57, n_58, n_59, n_61, n_63, n_64, n_65, n_68, n_90, n_91, n_93, n_95, n_97, n_100, n_122, n_123, n_125, n_128, n_144, n_200, n_255, n_256, n_300, n_400, n_600, n_1536, n_3980, n_4000, n_4001, n_4300, n_65536, l_0, l_1, l_2, l_3, l_4, l_10, l_48, l_63, l_255, l_300, nI_ltI, nI_leI, nI_eq, nI_clamp, nI_add, pk_sub, pk_mul, nI_ne1, ne1_nI, nI_pge, nI_nlt0, nI_l, lN_i, lN_add, lN_mul, lN_sub, pk_lLT, pk_lLE, pk_lEQ, lg_lt, lg_ge, lg_eq0, lg_le, lg_gt, lg_ltn, lg_gen, lg_eq0n, lg_len, lg_gtn, Nat.zero_le, Nat.not_lt_zero, not_false_eq_true, not_true_eq_false, true_and, and_true]; omega) | omega)) (o_pos ⟨nI_pos' (by omega), by (first | (simp (maxSteps := 4000000) (disch := omega) only [n_0, n_1, n_2, n_3, n_4, n_5, n_6, n_7, n_8, n_9, n_10, n_11, n_12, n_13, n_14, n_15, n_16, n_18, n_20, n_24, n_31, n_32, n_34, n_40, n_41, n_44, n_45, n_47, n_48, n_57, n_58, n_59, n_61, n_63, n_64, n_65, n_68, n_90, n_91, n_93, n_95, n_97, n_100, n_122, n_123, n_125, n_128, n_144, n_200, n_255, n_256, n_300, n_400, n_600, n_1536, n_3980, n_4000, n_4001, n_4300, n_65536, l_0, l_1, l_2, l_3, l_4, l_10, l_48, l_63, l_255, l_300, nI_ltI, nI_leI, nI_eq, nI_clamp, nI_add, pk_sub, pk_mul, nI_ne1, ne1_nI, nI_pge, nI_nlt0, nI_l, lN_i, lN_add, lN_mul, lN_sub, pk_lLT, pk_lLE, pk_lEQ, lg_lt, lg_ge, lg_eq0, lg_le, lg_gt, lg_ltn, lg_gen, lg_eq0n, lg_len, lg_gtn, Nat.zero_le, Nat.not_lt_zero, not_false_eq_true, not_true_eq_false, true_and, and_true]; done) | (simp (maxSteps := 4000000) (disch := omega) only [n_0, n_1, n_2, n_3, n_4, n_5, n_6, n_7, n_8, n_9, n_10, n_11, n_12, n_13, n_14, n_15, n_16, n_18, n_20, n_24, n_31, n_32, n_34, n_40, n_41, n_44, n_45, n_47, n_48, n_57, n_58, n_59, n_61, n_63, n_64, n_65, n_68, n_90, n_91, n_93, n_95, n_97, n_100, n_122, n_123, n_125, n_128, n_144, n_200, n_255, n_256, n_300, n_400, n_600, n_1536, n_3980, n_4000, n_4001, n_4300, n_65536, l_0, l_1, l_2, l_3, l_4, l_10, l_48, l_63, l_255, l_300, nI_ltI, nI_leI, nI_eq, nI_clamp, nI_add, pk_sub, pk_mul, nI_ne1, ne1_nI, nI_pge, nI_nlt0, nI_l, lN_i, lN_add, lN_mul, lN_sub, pk_lLT, pk_lLE, pk_lEQ, lg_lt, lg_ge, lg_eq0, lg_le, lg_gt, lg_ltn, lg_gen, lg_eq0n, lg_len, lg_gtn, Nat.zero_le, Nat.not_lt_zero, not_false_eq_true, not_true_eq_false, true_and, and_true]; omega) | omega)⟩ ?_)
      rw [nI_clamp (show k < 2 ^ 31 by omega), ← eh, n_1, nI_add]
      exact q1
    · have F1 : FRX (fun a j => a = 1264 ∧ k ≤ j) nW nW h h1 := by rw [eh]; exact FRX.refl.si ⟨rfl, Nat.le_refl _⟩
      exact F1.trans (q2.mono (fun a j z => ⟨z.1, by omega⟩) (fun _ _ z => z) (fun _ _ z => z))
    · by_cases cj : j = k
      · rw [cj, q2.at (by omega), eh, hi_at]
      · rw [q3 j (by omega) h2', eh, hi_hsi_ne (by decide)]
def msP (a j : Nat) : Prop := a = 1264 ∨ (a = 1262 ∧ (j = 0 ∨ j = 2 ∨ j = 5))
def mCo (p : XH) : Option (Int32 × XH) := (if ¬ (hi p 1262 14) = 0 then (b_m_schema_74 (hi p 1262 15) (hsi p 1262 50 (hi p 1262 14))) else (b_m_schema_74 0 (hsi p 1262 50 (hi p 1262 14))))
theorem m_start (L : LY h) (n4 : n ≤ 4000) (e2 : hi h 1262 2 = nI n) (T2 : ∀ k, T k < 256) (tx : ∀ k, k < n → hi h 1263 k = nI (T k)) : ∃ q, (∀ p, f_m_parse q = some ((), p) → f_m_schema h = mCo p) ∧ MTx q T n ∧ LY q ∧ FRX msP nW nW h q ∧ hi q 1262 0 = 0 ∧ hi q 1262 2 = 0 := by
  obtain ⟨h0, eh0⟩ : ∃ h0, h0 = hsi h 1262 0 0 := ⟨_, rfl⟩
  have F0 : FRX msP nW nW h h0 := by rw [eh0]; exact FRX.refl.si (by simp [msP])
  have e20 : hi h0 1262 2 = nI n := by rw [eh0, hi_nk (by decide)]; exact e2
  obtain ⟨q, q1, q2, q3⟩ := copy7 n4 n 0 100000 h0 (by omega) (by omega) e20
  have q62 : ∀ k, hi q 1262 k = hi h0 1262 k := fun k => q2.at (by omega)
  obtain ⟨r, er⟩ : ∃ r, r = hsi (hsi q 1262 5 (nI n)) 1262 2 0 := ⟨_, rfl⟩
  have F1 : FRX msP nW nW h r := by
    rw [er]
    exact ((F0.trans (q2.mono (fun a j z => Or.inl z.1) (fun _ _ z => z) (fun _ _ z => z))).si (by simp [msP])).si (by simp [msP])
  refine ⟨r, fun p e => ?_, ⟨by rw [er, hi_nk (by decide), hi_at], n4, T2, fun k hk' => ?_⟩, L.frx F1 (fun _ _ _ _ z => z), F1, ?_, by rw [er, hi_at]⟩
  · show b_m_schema_7 100000 (nI 0) (hsi h 1262 0 0) = _
    rw [← eh0, q1]
    unfold END7
    rw [q62, e20, ← er]
    exact o_bind e rfl
  · rw [er, hi_hsi_ne (by decide), hi_hsi_ne (by decide), q3 k (Nat.zero_le _) hk', eh0, hi_hsi_ne (by decide)]
    exact tx k hk'
  · rw [er, hi_nk (by decide), hi_nk (by decide), q62, eh0, hi_at]
def mgP (a k : Nat) : Prop := a = 1265 ∨ (a = 1262 ∧ (k = 50 ∨ k = 51 ∨ k = 6 ∨ k = 7 ∨ k = 57 ∨ k = 58 ∨ k = 59 ∨ k = 64 ∨ k = 67 ∨ k = 81))
theorem m_good (n4 : n ≤ 4000) (e14 : hi p 1262 14 = 0) (e5 : hi p 1262 5 = nI n) : ∃ z, mCo p = some (hi p 1262 31, z) ∧ FRX mgP nW nW p z ∧ (hi z 1262 50 = 0 ∧ hi z 1262 51 = 0 ∧ hi z 1262 6 = nI n ∧ hi z 1262 7 = 1 ∧ hi z 1262 57 = 0 ∧ hi z 1262 58 = 4 ∧ hi z 1262 59 = 0 ∧ hi z 1262 64 = 0 ∧ hi z 1262 67 = -1 ∧ hi z 1262 81 = 0) ∧ ∀ j, j < n → hi z 1265 j = hi p 1264 j := by
  obtain ⟨a, ea⟩ : ∃ a, a = hsi p 1262 50 0 := ⟨_, rfl⟩
  obtain ⟨b, eb⟩ : ∃ b, b = hsi a 1262 51 0 := ⟨_, rfl⟩
  have b62 : ∀ k, k ≠ 50 → k ≠ 51 → hi b 1262 k = hi p 1262 k := fun k h1 h2 => by rw [eb, hi_nk h2, ea, hi_nk h1]
  obtain ⟨q, q1, q2, q3⟩ := copy140 n4 n 0 100000 b (by omega) (by omega) (by rw [b62 5 (by decide) (by decide)]; exact e5)
  have q62 : ∀ k, hi q 1262 k = hi b 1262 k := fun k => q2.at (by omega)
  obtain ⟨z, ez⟩ : ∃ z, z = hsi (hsi (hsi (hsi (hsi (hsi (hsi (hsi q 1262 6 (nI n)) 1262 7 1) 1262 57 0) 1262 58 4) 1262 59 0) 1262 64 0) 1262 67 (-1)) 1262 81 0 := ⟨_, rfl⟩
  refine ⟨z, ?_, ?_, ?_, fun j hj' => ?_⟩
  · unfold mCo b_m_schema_74
    rw [e14]
    refine o_neg (not_not_intro rfl) ?_
    rw [← ea]
    refine o_pos (show hi a 1262 14 = 0 by rw [ea, hi_nk (by decide)]; exact e14) ?_
    rw [← eb]
    show b_m_schema_140 100000 (nI 0) b = _
    rw [q1]
    unfold END140 f_m_empty
    rw [q62, b62 5 (by decide) (by decide), e5]
    refine o_bind rfl ?_
    show some (hi (hsi (hsi (hsi (hsi (hsi (hsi (hsi q 1262 6 (nI n)) 1262 7 1) 1262 57 0) 1262 58 4) 1262 59 0) 1262 64 0) 1262 67 (-1)) 1262 31, hsi (hsi (hsi (hsi (hsi (hsi (hsi (hsi q 1262 6 (nI n)) 1262 7 1) 1262 57 0) 1262 58 4) 1262 59 0) 1262 64 0) 1262 67 (-1)) 1262 81 0) = _
    rw [← ez]
    simp (disch := decide) only [hi_nk]
    rw [q62, b62 31 (by decide) (by decide)]
  · rw [ez]
    have F1 : FRX mgP nW nW p q := by
      have Fb : FRX mgP nW nW p b := by rw [eb, ea]; exact (FRX.refl.si (by simp [mgP])).si (by simp [mgP])
      exact Fb.trans (q2.mono (fun a j z => Or.inl z.1) (fun _ _ z => z) (fun _ _ z => z))
    exact (((((((F1.si (by simp [mgP])).si (by simp [mgP])).si (by simp [mgP])).si (by simp [mgP])).si (by simp [mgP])).si (by simp [mgP])).si (by simp [mgP])).si (by simp [mgP])
  · refine ⟨?_, ?_, ?_⟩
    · rw [ez]
      simp (disch := decide) only [hi_nk]
      rw [q62, eb, hi_nk (by decide), ea, hi_at]
    · rw [ez]
      simp (disch := decide) only [hi_nk]
      rw [q62, eb, hi_at]
    · rw [ez]
      simp (disch := decide) only [hi_nk, hi_at, and_self]
  · rw [ez]
    simp (disch := decide) only [hi_hsi_ne]
    rw [q3 j (Nat.zero_le _) hj', eb, hi_hsi_ne (by decide), ea, hi_hsi_ne (by decide)]
def mbP (a k : Nat) : Prop := a = 1264 ∨ (a = 1262 ∧ (k = 0 ∨ k = 5 ∨ k = 50 ∨ k = 51))
theorem m_bad (n4 : n ≤ 4000) (e14 : ¬ hi p 1262 14 = 0) (e6 : hi p 1262 6 = nI n) : ∃ q, mCo p = END99 q ∧ FRX mbP nW nW p q ∧ (hi q 1262 0 = 1 ∧ hi q 1262 5 = nI n ∧ hi q 1262 50 = hi p 1262 14 ∧ hi q 1262 51 = hi p 1262 15) ∧ ∀ j, j < n → hi q 1264 j = hi p 1265 j := by
  obtain ⟨a, ea⟩ : ∃ a, a = hsi p 1262 50 (hi p 1262 14) := ⟨_, rfl⟩
  obtain ⟨b, eb⟩ : ∃ b, b = hsi (hsi (hsi a 1262 51 (hi p 1262 15)) 1262 0 1) 1262 5 (nI n) := ⟨_, rfl⟩
  obtain ⟨q, q1, q2, q3⟩ := copy99 n4 n 0 100000 b (by omega) (by omega) (by rw [eb, hi_at])
  have q62 : ∀ k, hi q 1262 k = hi b 1262 k := fun k => q2.at (by omega)
  refine ⟨q, ?_, ?_, ⟨?_, ?_, ?_, ?_⟩, fun j hj' => ?_⟩
  · unfold mCo b_m_schema_74
    refine o_pos e14 ?_
    rw [← ea]
    refine o_neg (show ¬ hi a 1262 14 = 0 by rw [ea, hi_nk (by decide)]; exact e14) ?_
    rw [show hi a 1262 6 = nI n by rw [ea, hi_nk (by decide)]; exact e6, ← eb]
    exact q1
  · have Fb : FRX mbP nW nW p b := by rw [eb, ea]; exact (((FRX.refl.si (by simp [mbP])).si (by simp [mbP])).si (by simp [mbP])).si (by simp [mbP])
    exact Fb.trans (q2.mono (fun a j z => Or.inl z.1) (fun _ _ z => z) (fun _ _ z => z))
  · rw [q62, eb, hi_nk (by decide), hi_at]
  · rw [q62, eb, hi_at]
  · rw [q62, eb, hi_nk (by decide), hi_nk (by decide), hi_nk (by decide), ea, hi_at]
  · rw [q62, eb, hi_nk (by decide), hi_nk (by decide), hi_at]
  · rw [q3 j (Nat.zero_le _) hj', eb, hi_hsi_ne (by decide), hi_hsi_ne (by decide), hi_hsi_ne (by decide), ea, hi_hsi_ne (by decide)]
end Cy
def wsP (a k : Nat) : Prop := (a = 0 ∧ (k = 8 ∨ k = 9)) ∨ (a = 1244 ∧ (k = 1 ∨ k = 2 ∨ k = 7 ∨ k = 9 ∨ k = 10)) ∨ (a = 1255 ∧ k = 5) ∨ (a = 1256 ∧ k = 1)
def wsW (a k : Nat) : Prop := a = 0 ∧ (k = 4 ∨ k = 5)
section Ce
variable {S S4 t : Nat} {u w : XH} {sg : SGT} {sd : Nat → Int64}
theorem tS_eval (L : LY u) (hS : S = 12 ∨ S = 628) (h4 : hr u 0 4 = some S4) (h5 : hr u 0 5 = some S) : ∃ w, tS t u = some (Sum.inl (hi u (S + 195) 1), w) ∧ LY w ∧ FRX wsP nW wsW u w ∧ hr w 0 4 = some S ∧ hr w 0 5 = some S4 ∧ (hi w 0 8 = hi u t 7 ∧ (t ≠ 0 → hi w 0 9 = hi u t 8)) ∧ (hi w 1244 1 = 0 ∧ hi w 1244 2 = 4 ∧ hi w 1244 7 = 0 ∧ hi w 1244 9 = 0 ∧ hi w 1244 10 = -1 ∧ hi w 1255 5 = -1 ∧ hi w 1256 1 = 0) := by
  have sc := SC.of L hS
  obtain ⟨a, ea⟩ : ∃ a, a = hsi u 0 8 (hi u t 7) := ⟨_, rfl⟩
  obtain ⟨b, eb⟩ : ∃ b, b = hsi a 0 9 (hi a t 8) := ⟨_, rfl⟩
  obtain ⟨c, ec⟩ : ∃ c, c = hsr (hsr b 0 4 (some S)) 0 5 (some S4) := ⟨_, rfl⟩
  obtain ⟨d, ed⟩ : ∃ d, d = hsi (hsi (hsi (hsi (hsi c 1244 1 0) 1244 2 4) 1244 7 0) 1244 9 0) 1244 10 (-1) := ⟨_, rfl⟩
  obtain ⟨w, ew⟩ : ∃ w, w = hsi (hsi d 1256 1 0) 1255 5 (-1) := ⟨_, rfl⟩
  have Fb : FRX wsP nW wsW u b := by rw [eb, ea]; exact (FRX.refl.si (by simp [wsP])).si (by simp [wsP])
  have Fc : FRX wsP nW wsW u c := by rw [ec]; exact (Fb.sr (by simp [wsW])).sr (by simp [wsW])
  have Fd : FRX wsP nW wsW u d := by rw [ed]; exact ((((Fc.si (by simp [wsP])).si (by simp [wsP])).si (by simp [wsP])).si (by simp [wsP])).si (by simp [wsP])
  have Fw : FRX wsP nW wsW u w := by rw [ew]; exact (Fd.si (by simp [wsP])).si (by simp [wsP])
  have Lw : LY w := by
    rw [ew, ed, ec, eb, ea]
    simp only [LY_si]
    refine LY.sr5 (LY.sr4 ?_)
    simp only [LY_si]
    exact L
  have r4 : hr w 0 4 = some S := by rw [ew, ed]; simp only [hr_hsi]; rw [ec, hr_hsr_nk (by decide), hr_hsr_eq]
  have r5 : hr w 0 5 = some S4 := by rw [ew, ed]; simp only [hr_hsi]; rw [ec, hr_hsr_eq]
  have scw := SC.of Lw hS
  refine ⟨w, ?_, Lw, Fw, r4, r5, ⟨?_, fun ht => ?_⟩, ?_⟩
  · unfold tS f_u_empty f_r_drop
    refine o_bind h4 (o_bind h5 ?_)
    rw [← ea, ← eb, ← ec, ← ed]
    refine o_bind rfl ?_
    show (Option.bind (some ((), hsi (hsi d 1256 1 0) 1255 5 (-1))) fun r27 => (Option.bind (hr r27.2 0 4) fun b30 => (if b30 < hz r27.2 ∧ hk r27.2 b30 = 9 then (Option.bind (hr r27.2 b30 1) fun b33 => (if b33 < hz r27.2 ∧ hk r27.2 b33 = 4 then (some (Sum.inl (hi r27.2 b33 1), r27.2)) else none)) else none))) = _
    rw [← ew]
    refine o_bind rfl (o_bind r4 (o_pos ⟨show S < hz w by have := scw.1; omega, scw.2.2.1⟩ (o_bind scw.2.2.2.2.1 (o_pos ⟨show S + 195 < hz w by have := scw.1; omega, scw.gT.2.2.2.1⟩ ?_))))
    show some (Sum.inl (hi w (S + 195) 1), w) = _
    rw [Fw.at (by unfold wsP; omega)]
  · rw [ew, ed]
    simp (disch := decide) only [hi_hsi_ne]
    rw [ec, hi_hsr, hi_hsr, eb, hi_nk (by decide), ea, hi_at]
  · rw [ew, ed]
    simp (disch := decide) only [hi_hsi_ne]
    rw [ec, hi_hsr, hi_hsr, eb, hi_at, ea, hi_hsi_ne ht]
  · rw [ew, ed]
    simp (disch := decide) only [hi_hsi_ne, hi_nk, hi_at, and_self]
theorem tN_eval (L : LY u) (t17 : 1317 ≤ t) (hm : hz u < 1000000) : ∃ w, tN t u = some (Sum.inr 0, w) ∧ LY w ∧ hz w = hz u + 1 ∧ hw w = hw u + 6 ∧ (hi w 0 8 = hi u t 7 ∧ hi w 0 9 = hi u t 8) ∧ (∀ a k, a < hz u → ¬ (a = 0 ∧ (k = 8 ∨ k = 9)) → hi w a k = hi u a k) ∧ (∀ a, a < hz u → hj w a = hj u a) ∧ ∀ a, a < hz u → hr w a = hr u a := by
  have l := L.1
  obtain ⟨a, ea⟩ : ∃ a, a = hsi u 0 8 (hi u t 7) := ⟨_, rfl⟩
  obtain ⟨b, eb⟩ : ∃ b, b = hsi a 0 9 (hi a t 8) := ⟨_, rfl⟩
  have zb : hz b = hz u := by rw [eb, ea]; rfl
  have wb : hw b = hw u := by rw [eb, ea]; rfl
  have Lb : LY b := by rw [eb, ea]; simp only [LY_si]; exact L
  have jb : ∀ c, hj b c = hj u c := fun c => by rw [eb, ea]; rfl
  have rb : ∀ c, hr b c = hr u c := fun c => by rw [eb, ea]; rfl
  refine ⟨hthr b, ?_, Lb.thr (by omega), ?_, ?_, ⟨?_, ?_⟩, fun c k h1 h2 => ?_, fun c h1 => ?_, fun c h1 => ?_⟩
  · unfold tN
    rw [← ea, ← eb]
    exact o_pos (by omega) rfl
  · show hz b + 1 = _; rw [zb]
  · show hw b + 6 = _; rw [wb]
  · rw [hthr_hi (by omega), eb, hi_nk (by decide), ea, hi_at]
  · rw [hthr_hi (by omega), eb, hi_at, ea, hi_hsi_ne (by omega)]
  · rw [hthr_hi (by omega), eb, hi_hsi, if_neg (by omega), ea, hi_hsi, if_neg (by omega)]
  · rw [hthr_hj (by omega), jb]
  · rw [hthr_hr (by omega), rb]
end Ce
