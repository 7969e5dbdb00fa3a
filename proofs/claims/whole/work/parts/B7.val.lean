/-! Values of scalars; calls: read -/

/-- a value of a scalar -/
def vV (o : Nat) (v : Int64) : Prop := (xLO o).toInt ≤ v.toInt ∧ v.toInt ≤ (xHI o).toInt
section Val
variable {h : XH} {v : Int64} {o : Nat}
theorem e_t_isValue (ho : o < 11) : ∃ r : Int32, (vV o v → r = 1) ∧ (¬ vV o v → r = 0) ∧ f_t_isValue (nI o) v h = some (r, h) := by
  have e1 : f_t_isScalar (nI o) h = some (1, h) := by
    unfold f_t_isScalar
    exact o_neg (by (first | (simp (maxSteps := 4000000) (disch := omega) only [n_0, n_1, n_2, n_3, n_4, n_5, n_6, n_7, n_8, n_9, n_10, n_11, n_12, n_13, n_14, n_15, n_16, n_18, n_20, n_24, n_31, n_32, n_34, n_40, n_41, n_44, n_45, n_47, n_48, n_57, n_58, n_59, n_61, n_63, n_64, n_65, n_68, n_90, n_91, n_93, n_95, n_97, n_100, n_122, n_123, n_125, n_128, n_144, n_200, n_255, n_256, n_300, n_400, n_600, n_1536, n_3980, n_4000, n_4001, n_4300, n_65536, l_0, l_1, l_2, l_3, l_4, l_10, l_48, l_63, l_255, l_300, nI_ltI, nI_leI, nI_eq, nI_clamp, nI_add, pk_sub, pk_mul, nI_ne1, ne1_nI, nI_pge, nI_nlt0, nI_l, lN_i, lN_add, lN_mul, lN_sub, pk_lLT, pk_lLE, pk_lEQ, lg_lt, lg_ge, lg_eq0, lg_le, lg_gt, lg_ltn, lg_gen, lg_eq0n, lg_len, lg_gtn, Nat.zero_le, Nat.not_lt_zero, not_false_eq_true, not_true_eq_false, true_and, and_true]; done) | (simp (maxSteps := 4000000) (disch := omega) only [n_0, n_1, n_2, n_3, n_4, n_5, n_6, n_7, n_8, n_9, n_10, n_11, n_12, n_13, n_14, n_15, n_16, n_18, n_20, n_24, n_31, n_32, n_34, n_40, n_41, n_44, n_45, n_47, n_48, n_57, n_58, n_59, n_61, n_63, n_64, n_65, n_68, n_90, n_91, n_93, n_95, n_97, n_100, n_122, n_123, n_125, n_128, n_144, n_200, n_255, n_256, n_300, n_400, n_600, n_1536, n_3980, n_4000, n_4001, n_4300, n_65536, l_0, l_1, l_2, l_3, l_4, l_10, l_48, l_63, l_255, l_300, nI_ltI, nI_leI, nI_eq, nI_clamp, nI_add, pk_sub, pk_mul, nI_ne1, ne1_nI, nI_pge, nI_nlt0, nI_l, lN_i, lN_add, lN_mul, lN_sub, pk_lLT, pk_lLE, pk_lEQ, lg_lt, lg_ge, lg_eq0, lg_le, lg_gt, lg_ltn, lg_gen, lg_eq0n, lg_len, lg_gtn, Nat.zero_le, Nat.not_lt_zero, not_false_eq_true, not_true_eq_false, true_and, and_true]; omega) | omega)) (o_neg (by (first | (simp (maxSteps := 4000000) (disch := omega) only [n_0, n_1, n_2, n_3, n_4, n_5, n_6, n_7, n_8, n_9, n_10, n_11, n_12, n_13, n_14, n_15, n_16, n_18, n_20, n_24, n_31, n_32, n_34, n_40, n_41, n_44, n_45, n_47, n_48, n_57, n_58, n_59, n_61, n_63, n_64, n_65, n_68, n_90, n_91, n_93, n_95, n_97, n_100, n_122, n_123, n_125, n_128, n_144, n_200, n_255, n_256, n_300, n_400, n_600, n_1536, n_3980, n_4000, n_4001, n_4300, n_65536, l_0, l_1, l_2, l_3, l_4, l_10, l_48, l_63, l_255, l_300, nI_ltI, nI_leI, nI_eq, nI_clamp, nI_add, pk_sub, pk_mul, nI_ne1, ne1_nI, nI_pge, nI_nlt0, nI_l, lN_i, lN_add, lN_mul, lN_sub, pk_lLT, pk_lLE, pk_lEQ, lg_lt, lg_ge, lg_eq0, lg_le, lg_gt, lg_ltn, lg_gen, lg_eq0n, lg_len, lg_gtn, Nat.zero_le, Nat.not_lt_zero, not_false_eq_true, not_true_eq_false, true_and, and_true]; done) | (simp (maxSteps := 4000000) (disch := omega) only [n_0, n_1, n_2, n_3, n_4, n_5, n_6, n_7, n_8, n_9, n_10, n_11, n_12, n_13, n_14, n_15, n_16, n_18, n_20, n_24, n_31, n_32, n_34, n_40, n_41, n_44, n_45, n_47, n_48, n_57, n_58, n_59, n_61, n_63, n_64, n_65, n_68, n_90, n_91, n_93, n_95, n_97, n_100, n_122, n_123, n_125, n_128, n_144, n_200, n_255, n_256, n_300, n_400, n_600, n_1536, n_3980, n_4000, n_4001, n_4300, n_65536, l_0, l_1, l_2, l_3, l_4, l_10, l_48, l_63, l_255, l_300, nI_ltI, nI_leI, nI_eq, nI_clamp, nI_add, pk_sub, pk_mul, nI_ne1, ne1_nI, nI_pge, nI_nlt0, nI_l, lN_i, lN_add, lN_mul, lN_sub, pk_lLT, pk_lLE, pk_lEQ, lg_lt, lg_ge, lg_eq0, lg_le, lg_gt, lg_ltn, lg_gen, lg_eq0n, lg_len, lg_gtn, Nat.zero_le, Nat.not_lt_zero, not_false_eq_true, not_true_eq_false, true_and, and_true]; omega) | omega)) rfl)
  unfold f_t_isValue vV
  have ci : (nI o).toNatClampNeg = o := nI_clamp (by omega)
  rw [ci]
  by_cases c1 : (xLO o).toInt ≤ v.toInt
  · by_cases c2 : v.toInt ≤ (xHI o).toInt
    · refine ⟨1, fun _ => rfl, fun z => absurd ⟨c1, c2⟩ z, o_bind e1 (o_neg one0 (o_pos (by (first | (simp (maxSteps := 4000000) (disch := omega) only [n_0, n_1, n_2, n_3, n_4, n_5, n_6, n_7, n_8, n_9, n_10, n_11, n_12, n_13, n_14, n_15, n_16, n_18, n_20, n_24, n_31, n_32, n_34, n_40, n_41, n_44, n_45, n_47, n_48, n_57, n_58, n_59, n_61, n_63, n_64, n_65, n_68, n_90, n_91, n_93, n_95, n_97, n_100, n_122, n_123, n_125, n_128, n_144, n_200, n_255, n_256, n_300, n_400, n_600, n_1536, n_3980, n_4000, n_4001, n_4300, n_65536, l_0, l_1, l_2, l_3, l_4, l_10, l_48, l_63, l_255, l_300, nI_ltI, nI_leI, nI_eq, nI_clamp, nI_add, pk_sub, pk_mul, nI_ne1, ne1_nI, nI_pge, nI_nlt0, nI_l, lN_i, lN_add, lN_mul, lN_sub, pk_lLT, pk_lLE, pk_lEQ, lg_lt, lg_ge, lg_eq0, lg_le, lg_gt, lg_ltn, lg_gen, lg_eq0n, lg_len, lg_gtn, Nat.zero_le, Nat.not_lt_zero, not_false_eq_true, not_true_eq_false, true_and, and_true]; done) | (simp (maxSteps := 4000000) (disch := omega) only [n_0, n_1, n_2, n_3, n_4, n_5, n_6, n_7, n_8, n_9, n_10, n_11, n_12, n_13, n_14, n_15, n_16, n_18, n_20, n_24, n_31, n_32, n_34, n_40, n_41, n_44, n_45, n_47, n_48, n_57, n_58, n_59, n_61, n_63, n_64, n_65, n_68, n_90, n_91, n_93, n_95, n_97, n_100, n_122, n_123, n_125, n_128, n_144, n_200, n_255, n_256, n_300, n_400, n_600, n_1536, n_3980, n_4000, n_4001, n_4300, n_65536, l_0, l_1, l_2, l_3, l_4, l_10, l_48, l_63, l_255, l_300, nI_ltI, nI_leI, nI_eq, nI_clamp, nI_add, pk_sub, pk_mul, nI_ne1, ne1_nI, nI_pge, nI_nlt0, nI_l, lN_i, lN_add, lN_mul, lN_sub, pk_lLT, pk_lLE, pk_lEQ, lg_lt, lg_ge, lg_eq0, lg_le, lg_gt, lg_ltn, lg_gen, lg_eq0n, lg_len, lg_gtn, Nat.zero_le, Nat.not_lt_zero, not_false_eq_true, not_true_eq_false, true_and, and_true]; omega) | omega)) (o_neg ?_ (o_neg ?_ rfl))))⟩
      · rw [lg_gt, Int64.lt_iff_toInt_lt]; omega
      · rw [lg_gt, Int64.lt_iff_toInt_lt]; omega
    · refine ⟨0, fun z => absurd z.2 c2, fun _ => rfl, o_bind e1 (o_neg one0 (o_pos (by (first | (simp (maxSteps := 4000000) (disch := omega) only [n_0, n_1, n_2, n_3, n_4, n_5, n_6, n_7, n_8, n_9, n_10, n_11, n_12, n_13, n_14, n_15, n_16, n_18, n_20, n_24, n_31, n_32, n_34, n_40, n_41, n_44, n_45, n_47, n_48, n_57, n_58, n_59, n_61, n_63, n_64, n_65, n_68, n_90, n_91, n_93, n_95, n_97, n_100, n_122, n_123, n_125, n_128, n_144, n_200, n_255, n_256, n_300, n_400, n_600, n_1536, n_3980, n_4000, n_4001, n_4300, n_65536, l_0, l_1, l_2, l_3, l_4, l_10, l_48, l_63, l_255, l_300, nI_ltI, nI_leI, nI_eq, nI_clamp, nI_add, pk_sub, pk_mul, nI_ne1, ne1_nI, nI_pge, nI_nlt0, nI_l, lN_i, lN_add, lN_mul, lN_sub, pk_lLT, pk_lLE, pk_lEQ, lg_lt, lg_ge, lg_eq0, lg_le, lg_gt, lg_ltn, lg_gen, lg_eq0n, lg_len, lg_gtn, Nat.zero_le, Nat.not_lt_zero, not_false_eq_true, not_true_eq_false, true_and, and_true]; done) | (simp (maxSteps := 4000000) (disch := omega) only [n_0, n_1, n_2, n_3, n_4, n_5, n_6, n_7, n_8, n_9, n_10, n_11, n_12, n_13, n_14, n_15, n_16, n_18, n_20, n_24, n_31, n_32, n_34, n_40, n_41, n_44, n_45, n_47, n_48, n_57, n_58, n_59, n_61, n_63, n_64, n_65, n_68, n_90, n_91, n_93, n_95, n_97, n_100, n_122, n_123, n_125, n_128, n_144, n_200, n_255, n_256, n_300, n_400, n_600, n_1536, n_3980, n_4000, n_4001, n_4300, n_65536, l_0, l_1, l_2, l_3, l_4, l_10, l_48, l_63, l_255, l_300, nI_ltI, nI_leI, nI_eq, nI_clamp, nI_add, pk_sub, pk_mul, nI_ne1, ne1_nI, nI_pge, nI_nlt0, nI_l, lN_i, lN_add, lN_mul, lN_sub, pk_lLT, pk_lLE, pk_lEQ, lg_lt, lg_ge, lg_eq0, lg_le, lg_gt, lg_ltn, lg_gen, lg_eq0n, lg_len, lg_gtn, Nat.zero_le, Nat.not_lt_zero, not_false_eq_true, not_true_eq_false, true_and, and_true]; omega) | omega)) (o_neg ?_ (o_pos ?_ rfl))))⟩
      · rw [lg_gt, Int64.lt_iff_toInt_lt]; omega
      · rw [lg_gt, Int64.lt_iff_toInt_lt]; omega
  · refine ⟨0, fun z => absurd z.1 c1, fun _ => rfl, o_bind e1 (o_neg one0 (o_pos (by (first | (simp (maxSteps := 4000000) (disch := omega) only [n_0, n_1, n_2, n_3, n_4, n_5, n_6, n_7, n_8, n_9, n_10, n_11, n_12, n_13, n_14, n_15, n_16, n_18, n_20, n_24, n_31, n_32, n_34, n_40, n_41, n_44, n_45, n_47, n_48, n_57, n_58, n_59, n_61, n_63, n_64, n_65, n_68, n_90, n_91, n_93, n_95, n_97, n_100, n_122, n_123, n_125, n_128, n_144, n_200, n_255, n_256, n_300, n_400, n_600, n_1536, n_3980, n_4000, n_4001, n_4300, n_65536, l_0, l_1, l_2, l_3, l_4, l_10, l_48, l_63, l_255, l_300, nI_ltI, nI_leI, nI_eq, nI_clamp, nI_add, pk_sub, pk_mul, nI_ne1, ne1_nI, nI_pge, nI_nlt0, nI_l, lN_i, lN_add, lN_mul, lN_sub, pk_lLT, pk_lLE, pk_lEQ, lg_lt, lg_ge, lg_eq0, lg_le, lg_gt, lg_ltn, lg_gen, lg_eq0n, lg_len, lg_gtn, Nat.zero_le, Nat.not_lt_zero, not_false_eq_true, not_true_eq_false, true_and, and_true]; done) | (simp (maxSteps := 4000000) (disch := omega) only [n_0, n_1, n_2, n_3, n_4, n_5, n_6, n_7, n_8, n_9, n_10, n_11, n_12, n_13, n_14, n_15, n_16, n_18, n_20, n_24, n_31, n_32, n_34, n_40, n_41, n_44, n_45, n_47, n_48, n_57, n_58, n_59, n_61, n_63, n_64, n_65, n_68, n_90, n_91, n_93, n_95, n_97, n_100, n_122, n_123, n_125, n_128, n_144, n_200, n_255, n_256, n_300, n_400, n_600, n_1536, n_3980, n_4000, n_4001, n_4300, n_65536, l_0, l_1, l_2, l_3, l_4, l_10, l_48, l_63, l_255, l_300, nI_ltI, nI_leI, nI_eq, nI_clamp, nI_add, pk_sub, pk_mul, nI_ne1, ne1_nI, nI_pge, nI_nlt0, nI_l, lN_i, lN_add, lN_mul, lN_sub, pk_lLT, pk_lLE, pk_lEQ, lg_lt, lg_ge, lg_eq0, lg_le, lg_gt, lg_ltn, lg_gen, lg_eq0n, lg_len, lg_gtn, Nat.zero_le, Nat.not_lt_zero, not_false_eq_true, not_true_eq_false, true_and, and_true]; omega) | omega)) (o_pos ?_ rfl)))⟩
    rw [lg_gt, Int64.lt_iff_toInt_lt]; omega
theorem m_sig {x : Int32} {L : Int} (h1 : (-((1 : Int64) <<< ((Int32.toInt64 (x - 1)) &&& 63))).toInt = -L) (h2 : ((1 : Int64) <<< ((Int32.toInt64 (x - 1)) &&& 63)).toInt = L) : b_m_isValue_85 v x h = some (if -L ≤ v.toInt ∧ v.toInt ≤ L - 1 then 1 else 0, h) := by
  unfold b_m_isValue_85 b_m_isValue_90 b_m_isValue_122
  refine o_neg one0 ?_
  by_cases c1 : v.toInt < -L
  · rw [if_neg (show ¬ (-L ≤ v.toInt ∧ v.toInt ≤ L - 1) by omega)]
    exact o_pos (by rw [lg_lt, Int64.lt_iff_toInt_lt, h1]; exact c1) rfl
  · refine o_neg (by rw [lg_lt, Int64.lt_iff_toInt_lt, h1]; exact c1) ?_
    by_cases c2 : L ≤ v.toInt
    · rw [if_neg (show ¬ (-L ≤ v.toInt ∧ v.toInt ≤ L - 1) by omega)]
      exact o_pos (by rw [lg_ge, Int64.le_iff_toInt_le, h2]; exact c2) rfl
    · rw [if_pos (show -L ≤ v.toInt ∧ v.toInt ≤ L - 1 by omega)]
      exact o_neg (by rw [lg_ge, Int64.le_iff_toInt_le, h2]; exact c2) rfl
theorem m_uns {x : Int32} {L : Int} (h2 : ((1 : Int64) <<< ((Int32.toInt64 x) &&& 63)).toInt = L) : b_m_isValue_90 v x 0 h = some (if 0 ≤ v.toInt ∧ v.toInt ≤ L - 1 then 1 else 0, h) := by
  unfold b_m_isValue_90
  refine o_pos rfl ?_
  by_cases c1 : v.toInt < 0
  · rw [if_neg (show ¬ (0 ≤ v.toInt ∧ v.toInt ≤ L - 1) by omega)]
    exact o_pos (by rw [lg_lt, Int64.lt_iff_toInt_lt]; exact c1) rfl
  · refine o_neg (by rw [lg_lt, Int64.lt_iff_toInt_lt]; exact c1) ?_
    by_cases c2 : L ≤ v.toInt
    · rw [if_neg (show ¬ (0 ≤ v.toInt ∧ v.toInt ≤ L - 1) by omega)]
      exact o_pos (by rw [lg_ge, Int64.le_iff_toInt_le, h2]; exact c2) rfl
    · rw [if_pos (show 0 ≤ v.toInt ∧ v.toInt ≤ L - 1 by omega)]
      exact o_neg (by rw [lg_ge, Int64.le_iff_toInt_le, h2]; exact c2) rfl
theorem i64_rng (v : Int64) : -9223372036854775808 ≤ v.toInt ∧ v.toInt ≤ 9223372036854775807 := by
  have := tl_int v
  have := tl_lt v
  split at * <;> omega
theorem if_r {P Q : Prop} [Decidable P] (e : P ↔ Q) (k : f_m_isValue (nI o) v h = some (if P then 1 else 0, h)) : ∃ r : Int32, (Q → r = 1) ∧ (¬ Q → r = 0) ∧ f_m_isValue (nI o) v h = some (r, h) := by
  by_cases c : P
  · rw [if_pos c] at k
    exact ⟨1, fun _ => rfl, fun z => absurd (e.mp c) z, k⟩
  · rw [if_neg c] at k
    exact ⟨0, fun z => absurd (e.mpr z) c, fun _ => rfl, k⟩
theorem e_m_isValue (ho : o < 11) : ∃ r : Int32, (vV o v → r = 1) ∧ (¬ vV o v → r = 0) ∧ f_m_isValue (nI o) v h = some (r, h) := by
  have rg := i64_rng v
  have c : o = 0 ∨ o = 1 ∨ o = 2 ∨ o = 3 ∨ o = 4 ∨ o = 5 ∨ o = 6 ∨ o = 7 ∨ o = 8 ∨ o = 9 ∨ o = 10 := by omega
  have big : ∀ q, q = 7 ∨ q = 8 ∨ q = 10 → vV q v := by
    intro q hq
    rcases hq with e | e | e <;> subst e <;> exact rg
  rcases c with e | e | e | e | e | e | e | e | e | e | e <;> subst e
  · refine if_r (P := 0 ≤ v.toInt ∧ v.toInt ≤ 1) Iff.rfl ?_
    unfold f_m_isValue b_m_isValue_16
    refine o_neg (by decide) ?_
    by_cases c1 : v.toInt = 0
    · rw [if_pos (show 0 ≤ v.toInt ∧ v.toInt ≤ 1 by omega)]
      exact o_pos (by rw [lg_eq0, ← Int64.toInt_inj]; exact c1) rfl
    · refine o_neg (by rw [lg_eq0, ← Int64.toInt_inj]; exact c1) ?_
      by_cases c2 : v.toInt = 1
      · rw [if_pos (show 0 ≤ v.toInt ∧ v.toInt ≤ 1 by omega)]
        exact o_neg (by rw [lg_eq0, ← Int64.toInt_inj]; exact not_not_intro c2) rfl
      · rw [if_neg (show ¬ (0 ≤ v.toInt ∧ v.toInt ≤ 1) by omega)]
        exact o_pos (by rw [lg_eq0, ← Int64.toInt_inj]; exact c2) rfl
  · refine if_r (P := -128 ≤ v.toInt ∧ v.toInt ≤ 128 - 1) Iff.rfl ?_
    unfold f_m_isValue
    exact o_pos (by decide) (o_neg (by decide) (o_neg (by decide) (o_pos (by decide) (o_pos (by decide) (o_bind (e_m_bytesOf (o := 1) (by decide)) (o_pos (by decide) (m_sig (x := 8 * nI (bO 1)) (by decide) (by decide))))))))
  · refine if_r (P := 0 ≤ v.toInt ∧ v.toInt ≤ 256 - 1) Iff.rfl ?_
    unfold f_m_isValue
    exact o_pos (by decide) (o_neg (by decide) (o_neg (by decide) (o_pos (by decide) (o_pos (by decide) (o_bind (e_m_bytesOf (o := 2) (by decide)) (o_neg (by decide) (o_neg (by decide) (o_pos (by decide) (m_uns (x := 8 * nI (bO 2)) (by decide))))))))))
  · refine if_r (P := -32768 ≤ v.toInt ∧ v.toInt ≤ 32768 - 1) Iff.rfl ?_
    unfold f_m_isValue
    exact o_pos (by decide) (o_neg (by decide) (o_neg (by decide) (o_pos (by decide) (o_pos (by decide) (o_bind (e_m_bytesOf (o := 3) (by decide)) (o_neg (by decide) (o_pos (by decide) (m_sig (x := 8 * nI (bO 3)) (by decide) (by decide)))))))))
  · refine if_r (P := 0 ≤ v.toInt ∧ v.toInt ≤ 65536 - 1) Iff.rfl ?_
    unfold f_m_isValue
    exact o_pos (by decide) (o_neg (by decide) (o_neg (by decide) (o_pos (by decide) (o_pos (by decide) (o_bind (e_m_bytesOf (o := 4) (by decide)) (o_neg (by decide) (o_neg (by decide) (o_pos (by decide) (m_uns (x := 8 * nI (bO 4)) (by decide))))))))))
  · refine if_r (P := -2147483648 ≤ v.toInt ∧ v.toInt ≤ 2147483648 - 1) Iff.rfl ?_
    unfold f_m_isValue
    exact o_pos (by decide) (o_neg (by decide) (o_neg (by decide) (o_pos (by decide) (o_pos (by decide) (o_bind (e_m_bytesOf (o := 5) (by decide)) (o_neg (by decide) (o_neg (by decide) (o_neg (by decide) (m_sig (x := 8 * nI (bO 5)) (by decide) (by decide))))))))))
  · refine if_r (P := 0 ≤ v.toInt ∧ v.toInt ≤ 4294967296 - 1) Iff.rfl ?_
    unfold f_m_isValue
    exact o_pos (by decide) (o_neg (by decide) (o_neg (by decide) (o_pos (by decide) (o_pos (by decide) (o_bind (e_m_bytesOf (o := 6) (by decide)) (o_neg (by decide) (o_neg (by decide) (o_pos (by decide) (m_uns (x := 8 * nI (bO 6)) (by decide))))))))))
  · refine ⟨1, fun _ => rfl, fun z => absurd (big 7 (by decide)) z, ?_⟩
    unfold f_m_isValue
    exact o_pos (by decide) (o_pos (by decide) rfl)
  · refine ⟨1, fun _ => rfl, fun z => absurd (big 8 (by decide)) z, ?_⟩
    unfold f_m_isValue
    exact o_pos (by decide) (o_neg (by decide) (o_pos (by decide) rfl))
  · refine if_r (P := -2147483648 ≤ v.toInt ∧ v.toInt ≤ 2147483647) Iff.rfl ?_
    unfold f_m_isValue
    have e2 : (Int32.toInt64 (Int64.toInt32 v)).toInt = v.toInt.bmod 4294967296 := by rw [Int32.toInt_toInt64]; exact Int64.toInt_toInt32 v
    have e3 : v.toInt.bmod 4294967296 = if v.toInt % 4294967296 < 2147483648 then v.toInt % 4294967296 else v.toInt % 4294967296 - 4294967296 := rfl
    refine o_pos (by decide) (o_neg (by decide) (o_neg (by decide) (o_pos (by decide) (o_neg (by decide) ?_))))
    by_cases c1 : -2147483648 ≤ v.toInt ∧ v.toInt ≤ 2147483647
    · rw [if_pos c1]
      refine o_neg (not_not_intro ?_) rfl
      rw [lg_eq0, ← Int64.toInt_inj, e2, e3]
      split <;> omega
    · rw [if_neg c1]
      refine o_pos ?_ rfl
      rw [lg_eq0, ← Int64.toInt_inj, e2, e3]
      split <;> omega
  · refine ⟨1, fun _ => rfl, fun z => absurd (big 10 (by decide)) z, ?_⟩
    unfold f_m_isValue
    exact o_pos (by decide) (o_neg (by decide) (o_neg (by decide) (o_neg (by decide) rfl)))
/-- both sides agree on what a value is -/
theorem isVal2 (ho : o < 11) {g : XH} : ∃ r : Int32, (r = 0 ∨ r = 1) ∧ (r = 1 ↔ vV o v) ∧ f_t_isValue (nI o) v h = some (r, h) ∧ f_m_isValue (nI o) v g = some (r, g) := by
  obtain ⟨r, a1, a2, a3⟩ := e_t_isValue (h := h) (v := v) ho
  obtain ⟨s, b1, b2, b3⟩ := e_m_isValue (h := g) (v := v) ho
  by_cases c : vV o v
  · have e1 := a1 c
    have e2 := b1 c
    subst e1
    subst e2
    exact ⟨1, Or.inr rfl, ⟨fun _ => c, fun _ => rfl⟩, a3, b3⟩
  · have e1 := a2 c
    have e2 := b2 c
    subst e1
    subst e2
    exact ⟨0, Or.inl rfl, ⟨fun z => absurd z (by decide), fun z => absurd z c⟩, a3, b3⟩
end Val
theorem sx8 {v : Nat} (hv : v < 256) {s : Int64} (hs : (s.toBitVec.smod 64).toNat = 56) : (lN v <<< s) >>> s = Int32.toInt64 (Int8.toInt32 (Int32.toInt8 (Int64.toInt32 (lN v)))) := by
  apply Int64.toInt_inj.mp
  have e1 := l_shl (lN v) s 56 hs
  rw [lN_tn (by omega), Nat.mod_eq_of_lt (by omega)] at e1
  have e2 := tl_int (lN v <<< s)
  have e3 : tl (lN v <<< s) = v * 72057594037927936 := e1
  have e4 := l_shr (lN v <<< s) s 56 hs
  rw [Int.shiftRight_eq_div_pow] at e4
  have e5 : ((lN v <<< s) >>> s).toInt = (lN v <<< s).toInt / 72057594037927936 := e4
  have e6 : (Int32.toInt64 (Int8.toInt32 (Int32.toInt8 (Int64.toInt32 (lN v))))).toInt = if v < 128 then (v : Int) else (v : Int) - 256 := by
    rw [lN_i, Int32.toInt_toInt64, Int8.toInt_toInt32, Int32.toInt_toInt8, nI_toInt (by omega)]
    have : (v : Int).bmod (2 ^ 8) = if (v : Int) % 256 < 128 then (v : Int) % 256 else (v : Int) % 256 - 256 := rfl
    rw [this]
    split <;> split <;> omega
  rw [e5, e6, e2, e3]
  clear e1 e2 e3 e4 e5 e6
  split <;> split <;> omega
theorem sx16 {v : Nat} (hv : v < 65536) {s : Int64} (hs : (s.toBitVec.smod 64).toNat = 48) : (lN v <<< s) >>> s = Int32.toInt64 (Int16.toInt32 (Int32.toInt16 (Int64.toInt32 (lN v)))) := by
  apply Int64.toInt_inj.mp
  have e1 := l_shl (lN v) s 48 hs
  rw [lN_tn (by omega), Nat.mod_eq_of_lt (by omega)] at e1
  have e2 := tl_int (lN v <<< s)
  have e3 : tl (lN v <<< s) = v * 281474976710656 := e1
  have e4 := l_shr (lN v <<< s) s 48 hs
  rw [Int.shiftRight_eq_div_pow] at e4
  have e5 : ((lN v <<< s) >>> s).toInt = (lN v <<< s).toInt / 281474976710656 := e4
  have e6 : (Int32.toInt64 (Int16.toInt32 (Int32.toInt16 (Int64.toInt32 (lN v))))).toInt = if v < 32768 then (v : Int) else (v : Int) - 65536 := by
    rw [lN_i, Int32.toInt_toInt64, Int16.toInt_toInt32, Int32.toInt_toInt16, nI_toInt (by omega)]
    have : (v : Int).bmod (2 ^ 16) = if (v : Int) % 65536 < 32768 then (v : Int) % 65536 else (v : Int) % 65536 - 65536 := rfl
    rw [this]
    split <;> split <;> omega
  rw [e5, e6, e2, e3]
  clear e1 e2 e3 e4 e5 e6
  split <;> split <;> omega
theorem sx32 {v : Nat} (hv : v < 4294967296) {s : Int64} (hs : (s.toBitVec.smod 64).toNat = 32) : (lN v <<< s) >>> s = Int32.toInt64 (Int64.toInt32 (lN v)) := by
  apply Int64.toInt_inj.mp
  have e1 := l_shl (lN v) s 32 hs
  rw [lN_tn (by omega), Nat.mod_eq_of_lt (by omega)] at e1
  have e2 := tl_int (lN v <<< s)
  have e3 : tl (lN v <<< s) = v * 4294967296 := e1
  have e4 := l_shr (lN v <<< s) s 32 hs
  rw [Int.shiftRight_eq_div_pow] at e4
  have e5 : ((lN v <<< s) >>> s).toInt = (lN v <<< s).toInt / 4294967296 := e4
  have e6 : (Int32.toInt64 (Int64.toInt32 (lN v))).toInt = if v < 2147483648 then (v : Int) else (v : Int) - 4294967296 := by
    rw [lN_i, Int32.toInt_toInt64]
    by_cases c : v < 2147483648
    · rw [if_pos c, nI_toInt (by omega)]
    · rw [if_neg c, nI_big (by omega) (by omega)]
  rw [e5, e6, e2, e3]
  clear e1 e2 e3 e4 e5 e6
  split <;> split <;> omega
theorem sx64 {x s : Int64} (hs : (s.toBitVec.smod 64).toNat = 0) : (x <<< s) >>> s = x := by
  apply Int64.toInt_inj.mp
  have e1 := l_shl x s 0 hs
  have e4 := l_shr (x <<< s) s 0 hs
  rw [Int.shiftRight_eq_div_pow] at e4
  have e5 : ((x <<< s) >>> s).toInt = (x <<< s).toInt / 1 := e4
  have e6 : x <<< s = x := by
    apply Int64.toBitVec_inj.mp
    apply BitVec.eq_of_toNat_eq
    rw [e1]
    have := x.toBitVec.isLt
    omega
  rw [e5, e6]
  omega
/-- the value of a scalar that stands at q -/
def sV (y : Nat → Nat) (o q : Nat) : Int64 := if o = 1 then Int32.toInt64 (Int8.toInt32 (Int32.toInt8 (Int64.toInt32 (lN (nb y (bO o) q))))) else if o = 3 then Int32.toInt64 (Int16.toInt32 (Int32.toInt16 (Int64.toInt32 (lN (nb y (bO o) q))))) else if o = 5 ∨ o = 9 then Int32.toInt64 (Int64.toInt32 (lN (nb y (bO o) q))) else lN (nb y (bO o) q)
section Scal
variable {h : XH} {n : Nat} {sg : SGT} {sd : Nat → Int64} {o q b cl : Nat}
theorem e_b_scalar (B : BY h b cl) (ho : o < 11) (hq : q + bO o ≤ 4000) : f_b_scalar b (nI q) (nI o) h = some (sV (cb h cl) o q, h) := by
  have bb := bO_le o
  have eN := e_b_number B (i := q) (k := bO o) (by omega) hq
  have n8 := nb_lt (cb_lt h cl) (bO o) q
  have eS : f_t_isScalar (nI o) h = some (1, h) := by
    unfold f_t_isScalar
    exact o_neg (by (first | (simp (maxSteps := 4000000) (disch := omega) only [n_0, n_1, n_2, n_3, n_4, n_5, n_6, n_7, n_8, n_9, n_10, n_11, n_12, n_13, n_14, n_15, n_16, n_18, n_20, n_24, n_31, n_32, n_34, n_40, n_41, n_44, n_45, n_47, n_48, n_57, n_58, n_59, n_61, n_63, n_64, n_65, n_68, n_90, n_91, n_93, n_95, n_97, n_100, n_122, n_123, n_125, n_128, n_144, n_200, n_255, n_256, n_300, n_400, n_600, n_1536, n_3980, n_4000, n_4001, n_4300, n_65536, l_0, l_1, l_2, l_3, l_4, l_10, l_48, l_63, l_255, l_300, nI_ltI, nI_leI, nI_eq, nI_clamp, nI_add, pk_sub, pk_mul, nI_ne1, ne1_nI, nI_pge, nI_nlt0, nI_l, lN_i, lN_add, lN_mul, lN_sub, pk_lLT, pk_lLE, pk_lEQ, lg_lt, lg_ge, lg_eq0, lg_le, lg_gt, lg_ltn, lg_gen, lg_eq0n, lg_len, lg_gtn, Nat.zero_le, Nat.not_lt_zero, not_false_eq_true, not_true_eq_false, true_and, and_true]; done) | (simp (maxSteps := 4000000) (disch := omega) only [n_0, n_1, n_2, n_3, n_4, n_5, n_6, n_7, n_8, n_9, n_10, n_11, n_12, n_13, n_14, n_15, n_16, n_18, n_20, n_24, n_31, n_32, n_34, n_40, n_41, n_44, n_45, n_47, n_48, n_57, n_58, n_59, n_61, n_63, n_64, n_65, n_68, n_90, n_91, n_93, n_95, n_97, n_100, n_122, n_123, n_125, n_128, n_144, n_200, n_255, n_256, n_300, n_400, n_600, n_1536, n_3980, n_4000, n_4001, n_4300, n_65536, l_0, l_1, l_2, l_3, l_4, l_10, l_48, l_63, l_255, l_300, nI_ltI, nI_leI, nI_eq, nI_clamp, nI_add, pk_sub, pk_mul, nI_ne1, ne1_nI, nI_pge, nI_nlt0, nI_l, lN_i, lN_add, lN_mul, lN_sub, pk_lLT, pk_lLE, pk_lEQ, lg_lt, lg_ge, lg_eq0, lg_le, lg_gt, lg_ltn, lg_gen, lg_eq0n, lg_len, lg_gtn, Nat.zero_le, Nat.not_lt_zero, not_false_eq_true, not_true_eq_false, true_and, and_true]; omega) | omega)) (o_neg (by (first | (simp (maxSteps := 4000000) (disch := omega) only [n_0, n_1, n_2, n_3, n_4, n_5, n_6, n_7, n_8, n_9, n_10, n_11, n_12, n_13, n_14, n_15, n_16, n_18, n_20, n_24, n_31, n_32, n_34, n_40, n_41, n_44, n_45, n_47, n_48, n_57, n_58, n_59, n_61, n_63, n_64, n_65, n_68, n_90, n_91, n_93, n_95, n_97, n_100, n_122, n_123, n_125, n_128, n_144, n_200, n_255, n_256, n_300, n_400, n_600, n_1536, n_3980, n_4000, n_4001, n_4300, n_65536, l_0, l_1, l_2, l_3, l_4, l_10, l_48, l_63, l_255, l_300, nI_ltI, nI_leI, nI_eq, nI_clamp, nI_add, pk_sub, pk_mul, nI_ne1, ne1_nI, nI_pge, nI_nlt0, nI_l, lN_i, lN_add, lN_mul, lN_sub, pk_lLT, pk_lLE, pk_lEQ, lg_lt, lg_ge, lg_eq0, lg_le, lg_gt, lg_ltn, lg_gen, lg_eq0n, lg_len, lg_gtn, Nat.zero_le, Nat.not_lt_zero, not_false_eq_true, not_true_eq_false, true_and, and_true]; done) | (simp (maxSteps := 4000000) (disch := omega) only [n_0, n_1, n_2, n_3, n_4, n_5, n_6, n_7, n_8, n_9, n_10, n_11, n_12, n_13, n_14, n_15, n_16, n_18, n_20, n_24, n_31, n_32, n_34, n_40, n_41, n_44, n_45, n_47, n_48, n_57, n_58, n_59, n_61, n_63, n_64, n_65, n_68, n_90, n_91, n_93, n_95, n_97, n_100, n_122, n_123, n_125, n_128, n_144, n_200, n_255, n_256, n_300, n_400, n_600, n_1536, n_3980, n_4000, n_4001, n_4300, n_65536, l_0, l_1, l_2, l_3, l_4, l_10, l_48, l_63, l_255, l_300, nI_ltI, nI_leI, nI_eq, nI_clamp, nI_add, pk_sub, pk_mul, nI_ne1, ne1_nI, nI_pge, nI_nlt0, nI_l, lN_i, lN_add, lN_mul, lN_sub, pk_lLT, pk_lLE, pk_lEQ, lg_lt, lg_ge, lg_eq0, lg_le, lg_gt, lg_ltn, lg_gen, lg_eq0n, lg_len, lg_gtn, Nat.zero_le, Nat.not_lt_zero, not_false_eq_true, not_true_eq_false, true_and, and_true]; omega) | omega)) rfl)
  unfold f_b_scalar f_t_hasSign sV
  refine o_bind (e_t_scalarBytes ho) (o_pos ⟨B.1, B.2.1⟩ (o_bind eN ?_))
  have c : o = 0 ∨ o = 1 ∨ o = 2 ∨ o = 3 ∨ o = 4 ∨ o = 5 ∨ o = 6 ∨ o = 7 ∨ o = 8 ∨ o = 9 ∨ o = 10 := by omega
  have uns : ∀ o, o < 11 → ¬ lg_cmp (xLO o) 0 < 0 → (Option.bind (f_t_isScalar (nI o) h) fun r1 => if r1.1 = 0 then some ((0 : Int32), r1.2) else if 0 ≤ nI o ∧ nI o < nI 11 then (if 0 ≤ lg_cmp (xLO (nI o).toNatClampNeg) 0 then some (0, r1.2) else some (1, r1.2)) else none) = some (0, h) := by
    intro o ho z
    have eS : f_t_isScalar (nI o) h = some (1, h) := by
      unfold f_t_isScalar
      exact o_neg (by (first | (simp (maxSteps := 4000000) (disch := omega) only [n_0, n_1, n_2, n_3, n_4, n_5, n_6, n_7, n_8, n_9, n_10, n_11, n_12, n_13, n_14, n_15, n_16, n_18, n_20, n_24, n_31, n_32, n_34, n_40, n_41, n_44, n_45, n_47, n_48, n_57, n_58, n_59, n_61, n_63, n_64, n_65, n_68, n_90, n_91, n_93, n_95, n_97, n_100, n_122, n_123, n_125, n_128, n_144, n_200, n_255, n_256, n_300, n_400, n_600, n_1536, n_3980, n_4000, n_4001, n_4300, n_65536, l_0, l_1, l_2, l_3, l_4, l_10, l_48, l_63, l_255, l_300, nI_ltI, nI_leI, nI_eq, nI_clamp, nI_add, pk_sub, pk_mul, nI_ne1, ne1_nI, nI_pge, nI_nlt0, nI_l, lN_i, lN_add, lN_mul, lN_sub, pk_lLT, pk_lLE, pk_lEQ, lg_lt, lg_ge, lg_eq0, lg_le, lg_gt, lg_ltn, lg_gen, lg_eq0n, lg_len, lg_gtn, Nat.zero_le, Nat.not_lt_zero, not_false_eq_true, not_true_eq_false, true_and, and_true]; done) | (simp (maxSteps := 4000000) (disch := omega) only [n_0, n_1, n_2, n_3, n_4, n_5, n_6, n_7, n_8, n_9, n_10, n_11, n_12, n_13, n_14, n_15, n_16, n_18, n_20, n_24, n_31, n_32, n_34, n_40, n_41, n_44, n_45, n_47, n_48, n_57, n_58, n_59, n_61, n_63, n_64, n_65, n_68, n_90, n_91, n_93, n_95, n_97, n_100, n_122, n_123, n_125, n_128, n_144, n_200, n_255, n_256, n_300, n_400, n_600, n_1536, n_3980, n_4000, n_4001, n_4300, n_65536, l_0, l_1, l_2, l_3, l_4, l_10, l_48, l_63, l_255, l_300, nI_ltI, nI_leI, nI_eq, nI_clamp, nI_add, pk_sub, pk_mul, nI_ne1, ne1_nI, nI_pge, nI_nlt0, nI_l, lN_i, lN_add, lN_mul, lN_sub, pk_lLT, pk_lLE, pk_lEQ, lg_lt, lg_ge, lg_eq0, lg_le, lg_gt, lg_ltn, lg_gen, lg_eq0n, lg_len, lg_gtn, Nat.zero_le, Nat.not_lt_zero, not_false_eq_true, not_true_eq_false, true_and, and_true]; omega) | omega)) (o_neg (by (first | (simp (maxSteps := 4000000) (disch := omega) only [n_0, n_1, n_2, n_3, n_4, n_5, n_6, n_7, n_8, n_9, n_10, n_11, n_12, n_13, n_14, n_15, n_16, n_18, n_20, n_24, n_31, n_32, n_34, n_40, n_41, n_44, n_45, n_47, n_48, n_57, n_58, n_59, n_61, n_63, n_64, n_65, n_68, n_90, n_91, n_93, n_95, n_97, n_100, n_122, n_123, n_125, n_128, n_144, n_200, n_255, n_256, n_300, n_400, n_600, n_1536, n_3980, n_4000, n_4001, n_4300, n_65536, l_0, l_1, l_2, l_3, l_4, l_10, l_48, l_63, l_255, l_300, nI_ltI, nI_leI, nI_eq, nI_clamp, nI_add, pk_sub, pk_mul, nI_ne1, ne1_nI, nI_pge, nI_nlt0, nI_l, lN_i, lN_add, lN_mul, lN_sub, pk_lLT, pk_lLE, pk_lEQ, lg_lt, lg_ge, lg_eq0, lg_le, lg_gt, lg_ltn, lg_gen, lg_eq0n, lg_len, lg_gtn, Nat.zero_le, Nat.not_lt_zero, not_false_eq_true, not_true_eq_false, true_and, and_true]; done) | (simp (maxSteps := 4000000) (disch := omega) only [n_0, n_1, n_2, n_3, n_4, n_5, n_6, n_7, n_8, n_9, n_10, n_11, n_12, n_13, n_14, n_15, n_16, n_18, n_20, n_24, n_31, n_32, n_34, n_40, n_41, n_44, n_45, n_47, n_48, n_57, n_58, n_59, n_61, n_63, n_64, n_65, n_68, n_90, n_91, n_93, n_95, n_97, n_100, n_122, n_123, n_125, n_128, n_144, n_200, n_255, n_256, n_300, n_400, n_600, n_1536, n_3980, n_4000, n_4001, n_4300, n_65536, l_0, l_1, l_2, l_3, l_4, l_10, l_48, l_63, l_255, l_300, nI_ltI, nI_leI, nI_eq, nI_clamp, nI_add, pk_sub, pk_mul, nI_ne1, ne1_nI, nI_pge, nI_nlt0, nI_l, lN_i, lN_add, lN_mul, lN_sub, pk_lLT, pk_lLE, pk_lEQ, lg_lt, lg_ge, lg_eq0, lg_le, lg_gt, lg_ltn, lg_gen, lg_eq0n, lg_len, lg_gtn, Nat.zero_le, Nat.not_lt_zero, not_false_eq_true, not_true_eq_false, true_and, and_true]; omega) | omega)) rfl)
    refine o_bind eS (o_neg one0 (o_pos (by (first | (simp (maxSteps := 4000000) (disch := omega) only [n_0, n_1, n_2, n_3, n_4, n_5, n_6, n_7, n_8, n_9, n_10, n_11, n_12, n_13, n_14, n_15, n_16, n_18, n_20, n_24, n_31, n_32, n_34, n_40, n_41, n_44, n_45, n_47, n_48, n_57, n_58, n_59, n_61, n_63, n_64, n_65, n_68, n_90, n_91, n_93, n_95, n_97, n_100, n_122, n_123, n_125, n_128, n_144, n_200, n_255, n_256, n_300, n_400, n_600, n_1536, n_3980, n_4000, n_4001, n_4300, n_65536, l_0, l_1, l_2, l_3, l_4, l_10, l_48, l_63, l_255, l_300, nI_ltI, nI_leI, nI_eq, nI_clamp, nI_add, pk_sub, pk_mul, nI_ne1, ne1_nI, nI_pge, nI_nlt0, nI_l, lN_i, lN_add, lN_mul, lN_sub, pk_lLT, pk_lLE, pk_lEQ, lg_lt, lg_ge, lg_eq0, lg_le, lg_gt, lg_ltn, lg_gen, lg_eq0n, lg_len, lg_gtn, Nat.zero_le, Nat.not_lt_zero, not_false_eq_true, not_true_eq_false, true_and, and_true]; done) | (simp (maxSteps := 4000000) (disch := omega) only [n_0, n_1, n_2, n_3, n_4, n_5, n_6, n_7, n_8, n_9, n_10, n_11, n_12, n_13, n_14, n_15, n_16, n_18, n_20, n_24, n_31, n_32, n_34, n_40, n_41, n_44, n_45, n_47, n_48, n_57, n_58, n_59, n_61, n_63, n_64, n_65, n_68, n_90, n_91, n_93, n_95, n_97, n_100, n_122, n_123, n_125, n_128, n_144, n_200, n_255, n_256, n_300, n_400, n_600, n_1536, n_3980, n_4000, n_4001, n_4300, n_65536, l_0, l_1, l_2, l_3, l_4, l_10, l_48, l_63, l_255, l_300, nI_ltI, nI_leI, nI_eq, nI_clamp, nI_add, pk_sub, pk_mul, nI_ne1, ne1_nI, nI_pge, nI_nlt0, nI_l, lN_i, lN_add, lN_mul, lN_sub, pk_lLT, pk_lLE, pk_lEQ, lg_lt, lg_ge, lg_eq0, lg_le, lg_gt, lg_ltn, lg_gen, lg_eq0n, lg_len, lg_gtn, Nat.zero_le, Nat.not_lt_zero, not_false_eq_true, not_true_eq_false, true_and, and_true]; omega) | omega)) ?_))
    dsimp only
    rw [nI_clamp (by omega)]
    exact o_pos (Int32.not_lt.mp z) rfl
  have sig : ∀ o, o < 11 → lg_cmp (xLO o) 0 < 0 → (Option.bind (f_t_isScalar (nI o) h) fun r1 => if r1.1 = 0 then some ((0 : Int32), r1.2) else if 0 ≤ nI o ∧ nI o < nI 11 then (if 0 ≤ lg_cmp (xLO (nI o).toNatClampNeg) 0 then some (0, r1.2) else some (1, r1.2)) else none) = some (1, h) := by
    intro o ho z
    have eS : f_t_isScalar (nI o) h = some (1, h) := by
      unfold f_t_isScalar
      exact o_neg (by (first | (simp (maxSteps := 4000000) (disch := omega) only [n_0, n_1, n_2, n_3, n_4, n_5, n_6, n_7, n_8, n_9, n_10, n_11, n_12, n_13, n_14, n_15, n_16, n_18, n_20, n_24, n_31, n_32, n_34, n_40, n_41, n_44, n_45, n_47, n_48, n_57, n_58, n_59, n_61, n_63, n_64, n_65, n_68, n_90, n_91, n_93, n_95, n_97, n_100, n_122, n_123, n_125, n_128, n_144, n_200, n_255, n_256, n_300, n_400, n_600, n_1536, n_3980, n_4000, n_4001, n_4300, n_65536, l_0, l_1, l_2, l_3, l_4, l_10, l_48, l_63, l_255, l_300, nI_ltI, nI_leI, nI_eq, nI_clamp, nI_add, pk_sub, pk_mul, nI_ne1, ne1_nI, nI_pge, nI_nlt0, nI_l, lN_i, lN_add, lN_mul, lN_sub, pk_lLT, pk_lLE, pk_lEQ, lg_lt, lg_ge, lg_eq0, lg_le, lg_gt, lg_ltn, lg_gen, lg_eq0n, lg_len, lg_gtn, Nat.zero_le, Nat.not_lt_zero, not_false_eq_true, not_true_eq_false, true_and, and_true]; done) | (simp (maxSteps := 4000000) (disch := omega) only [n_0, n_1, n_2, n_3, n_4, n_5, n_6, n_7, n_8, n_9, n_10, n_11, n_12, n_13, n_14, n_15, n_16, n_18, n_20, n_24, n_31, n_32, n_34, n_40, n_41, n_44, n_45, n_47, n_48, n_57, n_58, n_59, n_61, n_63, n_64, n_65, n_68, n_90, n_91, n_93, n_95, n_97, n_100, n_122, n_123, n_125, n_128, n_144, n_200, n_255, n_256, n_300, n_400, n_600, n_1536, n_3980, n_4000, n_4001, n_4300, n_65536, l_0, l_1, l_2, l_3, l_4, l_10, l_48, l_63, l_255, l_300, nI_ltI, nI_leI, nI_eq, nI_clamp, nI_add, pk_sub, pk_mul, nI_ne1, ne1_nI, nI_pge, nI_nlt0, nI_l, lN_i, lN_add, lN_mul, lN_sub, pk_lLT, pk_lLE, pk_lEQ, lg_lt, lg_ge, lg_eq0, lg_le, lg_gt, lg_ltn, lg_gen, lg_eq0n, lg_len, lg_gtn, Nat.zero_le, Nat.not_lt_zero, not_false_eq_true, not_true_eq_false, true_and, and_true]; omega) | omega)) (o_neg (by (first | (simp (maxSteps := 4000000) (disch := omega) only [n_0, n_1, n_2, n_3, n_4, n_5, n_6, n_7, n_8, n_9, n_10, n_11, n_12, n_13, n_14, n_15, n_16, n_18, n_20, n_24, n_31, n_32, n_34, n_40, n_41, n_44, n_45, n_47, n_48, n_57, n_58, n_59, n_61, n_63, n_64, n_65, n_68, n_90, n_91, n_93, n_95, n_97, n_100, n_122, n_123, n_125, n_128, n_144, n_200, n_255, n_256, n_300, n_400, n_600, n_1536, n_3980, n_4000, n_4001, n_4300, n_65536, l_0, l_1, l_2, l_3, l_4, l_10, l_48, l_63, l_255, l_300, nI_ltI, nI_leI, nI_eq, nI_clamp, nI_add, pk_sub, pk_mul, nI_ne1, ne1_nI, nI_pge, nI_nlt0, nI_l, lN_i, lN_add, lN_mul, lN_sub, pk_lLT, pk_lLE, pk_lEQ, lg_lt, lg_ge, lg_eq0, lg_le, lg_gt, lg_ltn, lg_gen, lg_eq0n, lg_len, lg_gtn, Nat.zero_le, Nat.not_lt_zero, not_false_eq_true, not_true_eq_false, true_and, and_true]; done) | (simp (maxSteps := 4000000) (disch := omega) only [n_0, n_1, n_2, n_3, n_4, n_5, n_6, n_7, n_8, n_9, n_10, n_11, n_12, n_13, n_14, n_15, n_16, n_18, n_20, n_24, n_31, n_32, n_34, n_40, n_41, n_44, n_45, n_47, n_48, n_57, n_58, n_59, n_61, n_63, n_64, n_65, n_68, n_90, n_91, n_93, n_95, n_97, n_100, n_122, n_123, n_125, n_128, n_144, n_200, n_255, n_256, n_300, n_400, n_600, n_1536, n_3980, n_4000, n_4001, n_4300, n_65536, l_0, l_1, l_2, l_3, l_4, l_10, l_48, l_63, l_255, l_300, nI_ltI, nI_leI, nI_eq, nI_clamp, nI_add, pk_sub, pk_mul, nI_ne1, ne1_nI, nI_pge, nI_nlt0, nI_l, lN_i, lN_add, lN_mul, lN_sub, pk_lLT, pk_lLE, pk_lEQ, lg_lt, lg_ge, lg_eq0, lg_le, lg_gt, lg_ltn, lg_gen, lg_eq0n, lg_len, lg_gtn, Nat.zero_le, Nat.not_lt_zero, not_false_eq_true, not_true_eq_false, true_and, and_true]; omega) | omega)) rfl)
    refine o_bind eS (o_neg one0 (o_pos (by (first | (simp (maxSteps := 4000000) (disch := omega) only [n_0, n_1, n_2, n_3, n_4, n_5, n_6, n_7, n_8, n_9, n_10, n_11, n_12, n_13, n_14, n_15, n_16, n_18, n_20, n_24, n_31, n_32, n_34, n_40, n_41, n_44, n_45, n_47, n_48, n_57, n_58, n_59, n_61, n_63, n_64, n_65, n_68, n_90, n_91, n_93, n_95, n_97, n_100, n_122, n_123, n_125, n_128, n_144, n_200, n_255, n_256, n_300, n_400, n_600, n_1536, n_3980, n_4000, n_4001, n_4300, n_65536, l_0, l_1, l_2, l_3, l_4, l_10, l_48, l_63, l_255, l_300, nI_ltI, nI_leI, nI_eq, nI_clamp, nI_add, pk_sub, pk_mul, nI_ne1, ne1_nI, nI_pge, nI_nlt0, nI_l, lN_i, lN_add, lN_mul, lN_sub, pk_lLT, pk_lLE, pk_lEQ, lg_lt, lg_ge, lg_eq0, lg_le, lg_gt, lg_ltn, lg_gen, lg_eq0n, lg_len, lg_gtn, Nat.zero_le, Nat.not_lt_zero, not_false_eq_true, not_true_eq_false, true_and, and_true]; done) | (simp (maxSteps := 4000000) (disch := omega) only [n_0, n_1, n_2, n_3, n_4, n_5, n_6, n_7, n_8, n_9, n_10, n_11, n_12, n_13, n_14, n_15, n_16, n_18, n_20, n_24, n_31, n_32, n_34, n_40, n_41, n_44, n_45, n_47, n_48, n_57, n_58, n_59, n_61, n_63, n_64, n_65, n_68, n_90, n_91, n_93, n_95, n_97, n_100, n_122, n_123, n_125, n_128, n_144, n_200, n_255, n_256, n_300, n_400, n_600, n_1536, n_3980, n_4000, n_4001, n_4300, n_65536, l_0, l_1, l_2, l_3, l_4, l_10, l_48, l_63, l_255, l_300, nI_ltI, nI_leI, nI_eq, nI_clamp, nI_add, pk_sub, pk_mul, nI_ne1, ne1_nI, nI_pge, nI_nlt0, nI_l, lN_i, lN_add, lN_mul, lN_sub, pk_lLT, pk_lLE, pk_lEQ, lg_lt, lg_ge, lg_eq0, lg_le, lg_gt, lg_ltn, lg_gen, lg_eq0n, lg_len, lg_gtn, Nat.zero_le, Nat.not_lt_zero, not_false_eq_true, not_true_eq_false, true_and, and_true]; omega) | omega)) ?_))
    dsimp only
    rw [nI_clamp (by omega)]
    exact o_neg (fun w => Int32.not_lt.mpr w z) rfl
  rcases c with e | e | e | e | e | e | e | e | e | e | e <;> subst e
  · exact o_bind (uns 0 (by decide) (by decide)) (o_pos rfl rfl)
  · refine o_bind (sig 1 (by decide) (by decide)) (o_neg one0 ?_)
    show some (_ , _) = some (Int32.toInt64 _, _)
    dsimp only
    rw [sx8 n8 (by decide)]
  · exact o_bind (uns 2 (by decide) (by decide)) (o_pos rfl rfl)
  · refine o_bind (sig 3 (by decide) (by decide)) (o_neg one0 ?_)
    show some (_ , _) = some (Int32.toInt64 _, _)
    dsimp only
    rw [sx16 n8 (by decide)]
  · exact o_bind (uns 4 (by decide) (by decide)) (o_pos rfl rfl)
  · refine o_bind (sig 5 (by decide) (by decide)) (o_neg one0 ?_)
    show some (_ , _) = some (Int32.toInt64 _, _)
    dsimp only
    rw [sx32 n8 (by decide)]
  · exact o_bind (uns 6 (by decide) (by decide)) (o_pos rfl rfl)
  · refine o_bind (sig 7 (by decide) (by decide)) (o_neg one0 ?_)
    dsimp only
    rw [sx64 (by decide)]
    rfl
  · refine o_bind (sig 8 (by decide) (by decide)) (o_neg one0 ?_)
    dsimp only
    rw [sx64 (by decide)]
    rfl
  · refine o_bind (sig 9 (by decide) (by decide)) (o_neg one0 ?_)
    show some (_ , _) = some (Int32.toInt64 _, _)
    dsimp only
    rw [sx32 n8 (by decide)]
  · refine o_bind (sig 10 (by decide) (by decide)) (o_neg one0 ?_)
    dsimp only
    rw [sx64 (by decide)]
    rfl
theorem e_m_value {y : Nat → Nat} (C : MC h n y sg sd) (ho : o < 11) (hq : q + bO o ≤ n) : f_m_value (nI o) (nI q) h = some (sV y o q, h) := by
  have bb := bO_le o
  have eN := e_m_number C (i := q) (k := bO o) (by omega) hq
  unfold f_m_value sV
  refine o_bind (e_m_bytesOf ho) (o_bind eN ?_)
  have c : o = 0 ∨ o = 1 ∨ o = 2 ∨ o = 3 ∨ o = 4 ∨ o = 5 ∨ o = 6 ∨ o = 7 ∨ o = 8 ∨ o = 9 ∨ o = 10 := by omega
  rcases c with e | e | e | e | e | e | e | e | e | e | e <;> subst e <;> rfl
end Scal
