/-! The parsers: what stands in for a table's field, whether it is required -/

def dfJ (a a' k : Nat) : Prop := a' = 1316 ∨ (a' = a ∧ k = 8)
def t58 (t a k : Nat) : Prop := a = t ∧ 5 ≤ k ∧ k ≤ 8
def dmJ (j a k : Nat) : Prop := a = 1316 ∨ (a = 1291 ∧ k = j)
def rqP (t a a' k : Nat) : Prop := (a' = a ∧ k = 7) ∨ (a' = t ∧ 5 ≤ k ∧ k ≤ 8)
def rqM (j a k : Nat) : Prop := (a = 1262 ∧ 13 ≤ k ∧ k ≤ 15) ∨ (a = 1290 ∧ k = j)
section Df
variable {T : Nat → Nat} {n c S t k a j na na1 : Nat} {g h u p : XH}
theorem FTy.sc (A : FTy c t a j na na1 g h) : (hi g a 3 = 0 ∧ hi h 1286 j = 0 ∧ ∃ o, o < 11 ∧ hi g a 4 = nI o ∧ hi h 1287 j = nI o) ∨ (¬ hi g a 3 = 0 ∧ ¬ hi h 1286 j = 0) := by
  rcases A with ⟨-, so, o, e, ⟨a1, a2, a3⟩, ⟨b1, b2, b3⟩, q⟩ | ⟨-, -, k0, w, -, -, -, -, -, -, q⟩
  · rcases q with ⟨-, ⟨q1, q2⟩ | ⟨q1, q2⟩⟩ | ⟨q1, -⟩
    · rw [a1, b1, q1]
      exact Or.inl ⟨rfl, rfl, o, q2, a2, b2⟩
    · rw [a1, b1, q1]
      exact Or.inr ⟨by decide, by decide⟩
    · rw [a1, b1, q1]
      exact Or.inr ⟨by decide, by decide⟩
  · rcases q with ⟨-, q1, -, -, q2⟩ | ⟨-, q1, q2⟩
    · rw [q1, q2]; exact Or.inr ⟨by decide, by decide⟩
    · rw [q1, q2]; exact Or.inr ⟨by decide, by decide⟩
theorem TK.wh {i : Nat} (A : TK T n g h i) (q : hi g 8 i = 3) : ∃ at' to s : Nat, to ≤ n ∧ hi h 1267 i = nI at' ∧ hi h 1268 i = nI to ∧ at' < to ∧ ((T at' = 45 ∧ s = at' + 1 ∧ hj g 10 i = -(lN (dv T s (to - s)))) ∨ (¬ T at' = 45 ∧ s = at' ∧ hj g 10 i = lN (dv T s (to - s)))) ∧ s ≤ to ∧ ∀ k, s ≤ k → k < to → isDg (T k) := by
  obtain ⟨a, b, ab, bn, e9, e67, e68, r⟩ := A
  rcases r with ⟨q1, q2⟩ | ⟨q1, q2⟩ | ⟨q1, q2, q3, -⟩ | ⟨q1, q2, r⟩ | ⟨v, v1, q1, -, q2, q3⟩ | ⟨v, v0, v1, q1, q2, q3⟩ | ⟨y, y1, y2, q1, q2, q3⟩
  · rw [q1] at q; exact absurd q (by decide)
  · rw [q1] at q; exact absurd q (by decide)
  · rw [q1] at q; exact absurd q (by decide)
  · rcases r with ⟨r1, r2, r3, r4, r5⟩ | ⟨r1, r2, r3, r4, r5⟩
    · exact ⟨a, b, a + 1, bn, e67, e68, by omega, Or.inl ⟨r1, rfl, by rw [r5, Nat.sub_sub]⟩, by omega, r4⟩
    · exact ⟨a, b, a, bn, e67, e68, r2, Or.inr ⟨r1, rfl, r5⟩, by omega, r4⟩
  · rw [q1] at q; exact absurd q (by decide)
  · rw [q1] at q
    have kk := kc_b v v1 v0
    exact absurd q (show ¬ nI (kc v) = nI 3 by (first | (simp (maxSteps := 4000000) (disch := omega) only [n_0, n_1, n_2, n_3, n_4, n_5, n_6, n_7, n_8, n_9, n_10, n_11, n_12, n_13, n_14, n_15, n_16, n_18, n_20, n_24, n_31, n_32, n_34, n_40, n_41, n_44, n_45, n_47, n_48, n_57, n_58, n_59, n_61, n_63, n_64, n_65, n_68, n_90, n_91, n_93, n_95, n_97, n_100, n_122, n_123, n_125, n_128, n_144, n_200, n_255, n_256, n_300, n_400, n_600, n_1536, n_3980, n_4000, n_4001, n_4300, n_65536, l_0, l_1, l_2, l_3, l_4, l_10, l_48, l_63, l_255, l_300, nI_ltI, nI_leI, nI_eq, nI_clamp, nI_add, pk_sub, pk_mul, nI_ne1, ne1_nI, nI_pge, nI_nlt0, nI_l, lN_i, lN_add, lN_mul, lN_sub, pk_lLT, pk_lLE, pk_lEQ, lg_lt, lg_ge, lg_eq0, lg_le, lg_gt, lg_ltn, lg_gen, lg_eq0n, lg_len, lg_gtn, Nat.zero_le, Nat.not_lt_zero, not_false_eq_true, not_true_eq_false, true_and, and_true]; done) | (simp (maxSteps := 4000000) (disch := omega) only [n_0, n_1, n_2, n_3, n_4, n_5, n_6, n_7, n_8, n_9, n_10, n_11, n_12, n_13, n_14, n_15, n_16, n_18, n_20, n_24, n_31, n_32, n_34, n_40, n_41, n_44, n_45, n_47, n_48, n_57, n_58, n_59, n_61, n_63, n_64, n_65, n_68, n_90, n_91, n_93, n_95, n_97, n_100, n_122, n_123, n_125, n_128, n_144, n_200, n_255, n_256, n_300, n_400, n_600, n_1536, n_3980, n_4000, n_4001, n_4300, n_65536, l_0, l_1, l_2, l_3, l_4, l_10, l_48, l_63, l_255, l_300, nI_ltI, nI_leI, nI_eq, nI_clamp, nI_add, pk_sub, pk_mul, nI_ne1, ne1_nI, nI_pge, nI_nlt0, nI_l, lN_i, lN_add, lN_mul, lN_sub, pk_lLT, pk_lLE, pk_lEQ, lg_lt, lg_ge, lg_eq0, lg_le, lg_gt, lg_ltn, lg_gen, lg_eq0n, lg_len, lg_gtn, Nat.zero_le, Nat.not_lt_zero, not_false_eq_true, not_true_eq_false, true_and, and_true]; omega) | omega))
  · have x40 := sg_cases y2
    rw [q1] at q
    exact absurd q (show ¬ nI y = nI 3 by (first | (simp (maxSteps := 4000000) (disch := omega) only [n_0, n_1, n_2, n_3, n_4, n_5, n_6, n_7, n_8, n_9, n_10, n_11, n_12, n_13, n_14, n_15, n_16, n_18, n_20, n_24, n_31, n_32, n_34, n_40, n_41, n_44, n_45, n_47, n_48, n_57, n_58, n_59, n_61, n_63, n_64, n_65, n_68, n_90, n_91, n_93, n_95, n_97, n_100, n_122, n_123, n_125, n_128, n_144, n_200, n_255, n_256, n_300, n_400, n_600, n_1536, n_3980, n_4000, n_4001, n_4300, n_65536, l_0, l_1, l_2, l_3, l_4, l_10, l_48, l_63, l_255, l_300, nI_ltI, nI_leI, nI_eq, nI_clamp, nI_add, pk_sub, pk_mul, nI_ne1, ne1_nI, nI_pge, nI_nlt0, nI_l, lN_i, lN_add, lN_mul, lN_sub, pk_lLT, pk_lLE, pk_lEQ, lg_lt, lg_ge, lg_eq0, lg_le, lg_gt, lg_ltn, lg_gen, lg_eq0n, lg_len, lg_gtn, Nat.zero_le, Nat.not_lt_zero, not_false_eq_true, not_true_eq_false, true_and, and_true]; done) | (simp (maxSteps := 4000000) (disch := omega) only [n_0, n_1, n_2, n_3, n_4, n_5, n_6, n_7, n_8, n_9, n_10, n_11, n_12, n_13, n_14, n_15, n_16, n_18, n_20, n_24, n_31, n_32, n_34, n_40, n_41, n_44, n_45, n_47, n_48, n_57, n_58, n_59, n_61, n_63, n_64, n_65, n_68, n_90, n_91, n_93, n_95, n_97, n_100, n_122, n_123, n_125, n_128, n_144, n_200, n_255, n_256, n_300, n_400, n_600, n_1536, n_3980, n_4000, n_4001, n_4300, n_65536, l_0, l_1, l_2, l_3, l_4, l_10, l_48, l_63, l_255, l_300, nI_ltI, nI_leI, nI_eq, nI_clamp, nI_add, pk_sub, pk_mul, nI_ne1, ne1_nI, nI_pge, nI_nlt0, nI_l, lN_i, lN_add, lN_mul, lN_sub, pk_lLT, pk_lLE, pk_lEQ, lg_lt, lg_ge, lg_eq0, lg_le, lg_gt, lg_ltn, lg_gen, lg_eq0n, lg_len, lg_gtn, Nat.zero_le, Nat.not_lt_zero, not_false_eq_true, not_true_eq_false, true_and, and_true]; omega) | omega))
/-- digits read, the model -/
theorem e_m_digits {x2 : Int32} {to s : Nat} (M : MTx h T n) (m13' : hi h 1262 13 = nI k) (k4 : k < 4001) (e68 : hi h 1268 k = nI to) (tn : to ≤ n) (dg : ∀ k, s ≤ k → k < to → isDg (T k)) : ∀ (m x fuel : Nat), x + m = to → s ≤ x → m < fuel → b_m_defaults_133 fuel (nI j) x2 (lN (dv T s (x - s))) (nI x) h = (if x2 = 0 then b_m_defaults_182 (nI j) (lN (dv T s (to - s))) h else b_m_defaults_182 (nI j) (-(lN (dv T s (to - s)))) h) := by
  obtain ⟨-, n4, T2, tx⟩ := M
  intro m
  induction m with
  | zero =>
    intro x fuel e hs hf
    obtain ⟨f, rfl, -⟩ := fuel_pos hf
    have ex : x = to := by omega
    subst ex
    show s_m_defaults_133 (b_m_defaults_133 f) _ _ _ _ _ = _
    unfold s_m_defaults_133
    rw [m13', nI_clamp (show k < 2 ^ 31 by omega), e68]
    exact o_pos (by (first | (simp (maxSteps := 4000000) (disch := omega) only [n_0, n_1, n_2, n_3, n_4, n_5, n_6, n_7, n_8, n_9, n_10, n_11, n_12, n_13, n_14, n_15, n_16, n_18, n_20, n_24, n_31, n_32, n_34, n_40, n_41, n_44, n_45, n_47, n_48, n_57, n_58, n_59, n_61, n_63, n_64, n_65, n_68, n_90, n_91, n_93, n_95, n_97, n_100, n_122, n_123, n_125, n_128, n_144, n_200, n_255, n_256, n_300, n_400, n_600, n_1536, n_3980, n_4000, n_4001, n_4300, n_65536, l_0, l_1, l_2, l_3, l_4, l_10, l_48, l_63, l_255, l_300, nI_ltI, nI_leI, nI_eq, nI_clamp, nI_add, pk_sub, pk_mul, nI_ne1, ne1_nI, nI_pge, nI_nlt0, nI_l, lN_i, lN_add, lN_mul, lN_sub, pk_lLT, pk_lLE, pk_lEQ, lg_lt, lg_ge, lg_eq0, lg_le, lg_gt, lg_ltn, lg_gen, lg_eq0n, lg_len, lg_gtn, Nat.zero_le, Nat.not_lt_zero, not_false_eq_true, not_true_eq_false, true_and, and_true]; done) | (simp (maxSteps := 4000000) (disch := omega) only [n_0, n_1, n_2, n_3, n_4, n_5, n_6, n_7, n_8, n_9, n_10, n_11, n_12, n_13, n_14, n_15, n_16, n_18, n_20, n_24, n_31, n_32, n_34, n_40, n_41, n_44, n_45, n_47, n_48, n_57, n_58, n_59, n_61, n_63, n_64, n_65, n_68, n_90, n_91, n_93, n_95, n_97, n_100, n_122, n_123, n_125, n_128, n_144, n_200, n_255, n_256, n_300, n_400, n_600, n_1536, n_3980, n_4000, n_4001, n_4300, n_65536, l_0, l_1, l_2, l_3, l_4, l_10, l_48, l_63, l_255, l_300, nI_ltI, nI_leI, nI_eq, nI_clamp, nI_add, pk_sub, pk_mul, nI_ne1, ne1_nI, nI_pge, nI_nlt0, nI_l, lN_i, lN_add, lN_mul, lN_sub, pk_lLT, pk_lLE, pk_lEQ, lg_lt, lg_ge, lg_eq0, lg_le, lg_gt, lg_ltn, lg_gen, lg_eq0n, lg_len, lg_gtn, Nat.zero_le, Nat.not_lt_zero, not_false_eq_true, not_true_eq_false, true_and, and_true]; omega) | omega)) (o_pos (Int32.le_refl _) rfl)
  | succ m ih =>
    intro x fuel e hs hf
    obtain ⟨f, rfl, -⟩ := fuel_pos hf
    have dx := dg x hs (by omega)
    unfold isDg at dx
    have st : (10 : Int64) * lN (dv T s (x - s)) + Int32.toInt64 (nI (T x)) - 48 = lN (dv T s (x + 1 - s)) := by
      have e1 : dv T s (x + 1 - s) = dv T s (x - s) * 10 + (T x - 48) := by
        rw [show x + 1 - s = (x - s) + 1 by omega]
        show dv T s (x - s) * 10 + (T (s + (x - s)) - 48) = _
        rw [show s + (x - s) = x by omega]
      rw [nI_l (by omega), l_10, l_48, lN_mul, lN_add, lN_sub (by omega), e1]
      congr 1
      omega
    rw [← ih (x + 1) f (by omega) (by omega) (by omega)]
    show s_m_defaults_133 (b_m_defaults_133 f) _ _ _ _ _ = _
    unfold s_m_defaults_133
    rw [m13', nI_clamp (show k < 2 ^ 31 by omega), e68, nI_clamp (show x < 2 ^ 31 by omega), tx x (by omega), st]
    refine o_pos (by (first | (simp (maxSteps := 4000000) (disch := omega) only [n_0, n_1, n_2, n_3, n_4, n_5, n_6, n_7, n_8, n_9, n_10, n_11, n_12, n_13, n_14, n_15, n_16, n_18, n_20, n_24, n_31, n_32, n_34, n_40, n_41, n_44, n_45, n_47, n_48, n_57, n_58, n_59, n_61, n_63, n_64, n_65, n_68, n_90, n_91, n_93, n_95, n_97, n_100, n_122, n_123, n_125, n_128, n_144, n_200, n_255, n_256, n_300, n_400, n_600, n_1536, n_3980, n_4000, n_4001, n_4300, n_65536, l_0, l_1, l_2, l_3, l_4, l_10, l_48, l_63, l_255, l_300, nI_ltI, nI_leI, nI_eq, nI_clamp, nI_add, pk_sub, pk_mul, nI_ne1, ne1_nI, nI_pge, nI_nlt0, nI_l, lN_i, lN_add, lN_mul, lN_sub, pk_lLT, pk_lLE, pk_lEQ, lg_lt, lg_ge, lg_eq0, lg_le, lg_gt, lg_ltn, lg_gen, lg_eq0n, lg_len, lg_gtn, Nat.zero_le, Nat.not_lt_zero, not_false_eq_true, not_true_eq_false, true_and, and_true]; done) | (simp (maxSteps := 4000000) (disch := omega) only [n_0, n_1, n_2, n_3, n_4, n_5, n_6, n_7, n_8, n_9, n_10, n_11, n_12, n_13, n_14, n_15, n_16, n_18, n_20, n_24, n_31, n_32, n_34, n_40, n_41, n_44, n_45, n_47, n_48, n_57, n_58, n_59, n_61, n_63, n_64, n_65, n_68, n_90, n_91, n_93, n_95, n_97, n_100, n_122, n_123, n_125, n_128, n_144, n_200, n_255, n_256, n_300, n_400, n_600, n_1536, n_3980, n_4000, n_4001, n_4300, n_65536, l_0, l_1, l_2, l_3, l_4, l_10, l_48, l_63, l_255, l_300, nI_ltI, nI_leI, nI_eq, nI_clamp, nI_add, pk_sub, pk_mul, nI_ne1, ne1_nI, nI_pge, nI_nlt0, nI_l, lN_i, lN_add, lN_mul, lN_sub, pk_lLT, pk_lLE, pk_lEQ, lg_lt, lg_ge, lg_eq0, lg_le, lg_gt, lg_ltn, lg_gen, lg_eq0n, lg_len, lg_gtn, Nat.zero_le, Nat.not_lt_zero, not_false_eq_true, not_true_eq_false, true_and, and_true]; omega) | omega)) (o_neg (by (first | (simp (maxSteps := 4000000) (disch := omega) only [n_0, n_1, n_2, n_3, n_4, n_5, n_6, n_7, n_8, n_9, n_10, n_11, n_12, n_13, n_14, n_15, n_16, n_18, n_20, n_24, n_31, n_32, n_34, n_40, n_41, n_44, n_45, n_47, n_48, n_57, n_58, n_59, n_61, n_63, n_64, n_65, n_68, n_90, n_91, n_93, n_95, n_97, n_100, n_122, n_123, n_125, n_128, n_144, n_200, n_255, n_256, n_300, n_400, n_600, n_1536, n_3980, n_4000, n_4001, n_4300, n_65536, l_0, l_1, l_2, l_3, l_4, l_10, l_48, l_63, l_255, l_300, nI_ltI, nI_leI, nI_eq, nI_clamp, nI_add, pk_sub, pk_mul, nI_ne1, ne1_nI, nI_pge, nI_nlt0, nI_l, lN_i, lN_add, lN_mul, lN_sub, pk_lLT, pk_lLE, pk_lEQ, lg_lt, lg_ge, lg_eq0, lg_le, lg_gt, lg_ltn, lg_gen, lg_eq0n, lg_len, lg_gtn, Nat.zero_le, Nat.not_lt_zero, not_false_eq_true, not_true_eq_false, true_and, and_true]; done) | (simp (maxSteps := 4000000) (disch := omega) only [n_0, n_1, n_2, n_3, n_4, n_5, n_6, n_7, n_8, n_9, n_10, n_11, n_12, n_13, n_14, n_15, n_16, n_18, n_20, n_24, n_31, n_32, n_34, n_40, n_41, n_44, n_45, n_47, n_48, n_57, n_58, n_59, n_61, n_63, n_64, n_65, n_68, n_90, n_91, n_93, n_95, n_97, n_100, n_122, n_123, n_125, n_128, n_144, n_200, n_255, n_256, n_300, n_400, n_600, n_1536, n_3980, n_4000, n_4001, n_4300, n_65536, l_0, l_1, l_2, l_3, l_4, l_10, l_48, l_63, l_255, l_300, nI_ltI, nI_leI, nI_eq, nI_clamp, nI_add, pk_sub, pk_mul, nI_ne1, ne1_nI, nI_pge, nI_nlt0, nI_l, lN_i, lN_add, lN_mul, lN_sub, pk_lLT, pk_lLE, pk_lEQ, lg_lt, lg_ge, lg_eq0, lg_le, lg_gt, lg_ltn, lg_gen, lg_eq0n, lg_len, lg_gtn, Nat.zero_le, Nat.not_lt_zero, not_false_eq_true, not_true_eq_false, true_and, and_true]; omega) | omega)) (o_pos (by (first | (simp (maxSteps := 4000000) (disch := omega) only [n_0, n_1, n_2, n_3, n_4, n_5, n_6, n_7, n_8, n_9, n_10, n_11, n_12, n_13, n_14, n_15, n_16, n_18, n_20, n_24, n_31, n_32, n_34, n_40, n_41, n_44, n_45, n_47, n_48, n_57, n_58, n_59, n_61, n_63, n_64, n_65, n_68, n_90, n_91, n_93, n_95, n_97, n_100, n_122, n_123, n_125, n_128, n_144, n_200, n_255, n_256, n_300, n_400, n_600, n_1536, n_3980, n_4000, n_4001, n_4300, n_65536, l_0, l_1, l_2, l_3, l_4, l_10, l_48, l_63, l_255, l_300, nI_ltI, nI_leI, nI_eq, nI_clamp, nI_add, pk_sub, pk_mul, nI_ne1, ne1_nI, nI_pge, nI_nlt0, nI_l, lN_i, lN_add, lN_mul, lN_sub, pk_lLT, pk_lLE, pk_lEQ, lg_lt, lg_ge, lg_eq0, lg_le, lg_gt, lg_ltn, lg_gen, lg_eq0n, lg_len, lg_gtn, Nat.zero_le, Nat.not_lt_zero, not_false_eq_true, not_true_eq_false, true_and, and_true]; done) | (simp (maxSteps := 4000000) (disch := omega) only [n_0, n_1, n_2, n_3, n_4, n_5, n_6, n_7, n_8, n_9, n_10, n_11, n_12, n_13, n_14, n_15, n_16, n_18, n_20, n_24, n_31, n_32, n_34, n_40, n_41, n_44, n_45, n_47, n_48, n_57, n_58, n_59, n_61, n_63, n_64, n_65, n_68, n_90, n_91, n_93, n_95, n_97, n_100, n_122, n_123, n_125, n_128, n_144, n_200, n_255, n_256, n_300, n_400, n_600, n_1536, n_3980, n_4000, n_4001, n_4300, n_65536, l_0, l_1, l_2, l_3, l_4, l_10, l_48, l_63, l_255, l_300, nI_ltI, nI_leI, nI_eq, nI_clamp, nI_add, pk_sub, pk_mul, nI_ne1, ne1_nI, nI_pge, nI_nlt0, nI_l, lN_i, lN_add, lN_mul, lN_sub, pk_lLT, pk_lLE, pk_lEQ, lg_lt, lg_ge, lg_eq0, lg_le, lg_gt, lg_ltn, lg_gen, lg_eq0n, lg_len, lg_gtn, Nat.zero_le, Nat.not_lt_zero, not_false_eq_true, not_true_eq_false, true_and, and_true]; omega) | omega)) ?_))
    rw [n_1, nI_add]
/-- what comes of a default -/
def DFO (T : Nat → Nat) (n c S t a j : Nat) (g h : XH) (rc : Option (Int32 × XH)) (rm : Option (Unit × XH)) : Prop := (∃ u p k', rc = some (1, u) ∧ rm = some ((), p) ∧ ST T n c u p t S k' ∧ hj u a 8 = hj p 1291 j ∧ (¬ hi h 1286 j = 0 → hj p 1291 j = 0) ∧ FRX (t58 t) (dfJ a) nW g u ∧ FRX m135 (dmJ j) nW h p) ∨ (∃ u p, rc = some (0, u) ∧ rm = some ((), p) ∧ FLT u p t ∧ FRX (t58 t) (dfJ a) nW g u ∧ FRX m135 (dmJ j) nW h p)
theorem default2 (A : ST T n c g h t S k) (M : MTx h T n) (ak : a < hz g ∧ hk g a = 3) (at' : S ≤ a ∧ a < S + 615) (hj' : j < 256) (sc : (hi g a 3 = 0 ∧ hi h 1286 j = 0 ∧ ∃ o, o < 11 ∧ hi g a 4 = nI o ∧ hi h 1287 j = nI o) ∨ (¬ hi g a 3 = 0 ∧ ¬ hi h 1286 j = 0)) (e8 : hj g a 8 = 0) : DFO T n c S t a j g h (f_p_readDefault t a g) (f_m_defaults (nI j) h) := by
  have A' := A
  obtain ⟨P, K, kc', a5, a6, m13', m14'⟩ := A'
  have t17 := P.2.1
  have S1 := P.2.2.2.1
  have c4 := K.2.2.2.1
  have jc : (nI j).toNatClampNeg = j := nI_clamp (by omega)
  have j256 : (0 : Int32) ≤ nI j ∧ nI j < nI 256 := ⟨nI_pos' (by omega), by (first | (simp (maxSteps := 4000000) (disch := omega) only [n_0, n_1, n_2, n_3, n_4, n_5, n_6, n_7, n_8, n_9, n_10, n_11, n_12, n_13, n_14, n_15, n_16, n_18, n_20, n_24, n_31, n_32, n_34, n_40, n_41, n_44, n_45, n_47, n_48, n_57, n_58, n_59, n_61, n_63, n_64, n_65, n_68, n_90, n_91, n_93, n_95, n_97, n_100, n_122, n_123, n_125, n_128, n_144, n_200, n_255, n_256, n_300, n_400, n_600, n_1536, n_3980, n_4000, n_4001, n_4300, n_65536, l_0, l_1, l_2, l_3, l_4, l_10, l_48, l_63, l_255, l_300, nI_ltI, nI_leI, nI_eq, nI_clamp, nI_add, pk_sub, pk_mul, nI_ne1, ne1_nI, nI_pge, nI_nlt0, nI_l, lN_i, lN_add, lN_mul, lN_sub, pk_lLT, pk_lLE, pk_lEQ, lg_lt, lg_ge, lg_eq0, lg_le, lg_gt, lg_ltn, lg_gen, lg_eq0n, lg_len, lg_gtn, Nat.zero_le, Nat.not_lt_zero, not_false_eq_true, not_true_eq_false, true_and, and_true]; done) | (simp (maxSteps := 4000000) (disch := omega) only [n_0, n_1, n_2, n_3, n_4, n_5, n_6, n_7, n_8, n_9, n_10, n_11, n_12, n_13, n_14, n_15, n_16, n_18, n_20, n_24, n_31, n_32, n_34, n_40, n_41, n_44, n_45, n_47, n_48, n_57, n_58, n_59, n_61, n_63, n_64, n_65, n_68, n_90, n_91, n_93, n_95, n_97, n_100, n_122, n_123, n_125, n_128, n_144, n_200, n_255, n_256, n_300, n_400, n_600, n_1536, n_3980, n_4000, n_4001, n_4300, n_65536, l_0, l_1, l_2, l_3, l_4, l_10, l_48, l_63, l_255, l_300, nI_ltI, nI_leI, nI_eq, nI_clamp, nI_add, pk_sub, pk_mul, nI_ne1, ne1_nI, nI_pge, nI_nlt0, nI_l, lN_i, lN_add, lN_mul, lN_sub, pk_lLT, pk_lLE, pk_lEQ, lg_lt, lg_ge, lg_eq0, lg_le, lg_gt, lg_ltn, lg_gen, lg_eq0n, lg_len, lg_gtn, Nat.zero_le, Nat.not_lt_zero, not_false_eq_true, not_true_eq_false, true_and, and_true]; omega) | omega)⟩
  obtain ⟨h0, eh0⟩ : ∃ h0, h0 = hsj h 1291 j 0 := ⟨_, rfl⟩
  have G0 : FRX m135 (dmJ j) nW h h0 := by rw [eh0]; exact FRX.refl.sj (Or.inr ⟨rfl, rfl⟩)
  have Gx : FRX xM nJ nW h h0 := by rw [eh0]; exact FRX.refl.sj (Or.inr rfl)
  have ST0 := A.con (FRX.refl (P := xP S t) (J := xJ S t) (W := wW S t)) Gx
  have i0 : ∀ b k, hi h0 b k = hi h b k := fun b k => by rw [eh0, hi_hsj]
  have j0 : hj h0 1291 j = 0 := by rw [eh0, hj_at]
  unfold f_p_readDefault f_m_defaults
  rw [jc, ← eh0]
  have f7 : hi g 8 k = nI 61 → ∃ u p, b_p_readDefault_36 t g = some (0, u) ∧ b_m_defaults_56 h0 = some ((), p) ∧ FLT u p t ∧ FRX (t58 t) (dfJ a) nW g u ∧ FRX m135 (dmJ j) nW h p := by
    intro q
    obtain ⟨u, p, s1, s2, s3, s4, s5, s6⟩ := ST0.fl (x := 7) (by rw [q]; decide) (by decide)
    refine ⟨u, p, ?_, ?_, s3, s4.x (fun a' k z => by unfold tF at z; unfold t58; omega) (fun k => Or.inl rfl), G0.trans (s5.x (fun a' k z => by unfold m14 at z; unfold m135; omega) (fun k => Or.inl rfl))⟩
    · unfold b_p_readDefault_36
      exact o_pos P.tk (o_bind s1 (o_pos (Or.inl rfl) rfl))
    · unfold b_m_defaults_56
      exact o_bind s2 rfl
  rcases e_m_isSign (x := 61) ST0 (by decide) with ⟨q1, q2⟩ | ⟨q1, q2⟩
  · have kq : hi g t 6 = 61 := by rw [a6]; exact q1
    rcases sc with ⟨s1, s2, o, o1, o2, o3⟩ | ⟨s1, s2⟩
    · by_cases o9 : o = 9
      · obtain ⟨u, p, r1, r2, r3, r4, r5⟩ := f7 q1
        refine Or.inr ⟨u, p, o_pos P.tk (o_pos kq (o_pos ak (o_neg (not_not_intro s1) (o_pos (by rw [o2, o9]; rfl) r1)))), o_pos m14' (o_pos j256 (o_bind q2 (o_pos one0 (o_pos j256 (o_neg (not_not_intro (by rw [i0]; exact s2)) (o_pos (by rw [i0, o3, o9]; rfl) r2)))))), r3, r4, r5⟩
      · have n9 : ¬ nI o = 9 := show ¬ nI o = nI 9 by (first | (simp (maxSteps := 4000000) (disch := omega) only [n_0, n_1, n_2, n_3, n_4, n_5, n_6, n_7, n_8, n_9, n_10, n_11, n_12, n_13, n_14, n_15, n_16, n_18, n_20, n_24, n_31, n_32, n_34, n_40, n_41, n_44, n_45, n_47, n_48, n_57, n_58, n_59, n_61, n_63, n_64, n_65, n_68, n_90, n_91, n_93, n_95, n_97, n_100, n_122, n_123, n_125, n_128, n_144, n_200, n_255, n_256, n_300, n_400, n_600, n_1536, n_3980, n_4000, n_4001, n_4300, n_65536, l_0, l_1, l_2, l_3, l_4, l_10, l_48, l_63, l_255, l_300, nI_ltI, nI_leI, nI_eq, nI_clamp, nI_add, pk_sub, pk_mul, nI_ne1, ne1_nI, nI_pge, nI_nlt0, nI_l, lN_i, lN_add, lN_mul, lN_sub, pk_lLT, pk_lLE, pk_lEQ, lg_lt, lg_ge, lg_eq0, lg_le, lg_gt, lg_ltn, lg_gen, lg_eq0n, lg_len, lg_gtn, Nat.zero_le, Nat.not_lt_zero, not_false_eq_true, not_true_eq_false, true_and, and_true]; done) | (simp (maxSteps := 4000000) (disch := omega) only [n_0, n_1, n_2, n_3, n_4, n_5, n_6, n_7, n_8, n_9, n_10, n_11, n_12, n_13, n_14, n_15, n_16, n_18, n_20, n_24, n_31, n_32, n_34, n_40, n_41, n_44, n_45, n_47, n_48, n_57, n_58, n_59, n_61, n_63, n_64, n_65, n_68, n_90, n_91, n_93, n_95, n_97, n_100, n_122, n_123, n_125, n_128, n_144, n_200, n_255, n_256, n_300, n_400, n_600, n_1536, n_3980, n_4000, n_4001, n_4300, n_65536, l_0, l_1, l_2, l_3, l_4, l_10, l_48, l_63, l_255, l_300, nI_ltI, nI_leI, nI_eq, nI_clamp, nI_add, pk_sub, pk_mul, nI_ne1, ne1_nI, nI_pge, nI_nlt0, nI_l, lN_i, lN_add, lN_mul, lN_sub, pk_lLT, pk_lLE, pk_lEQ, lg_lt, lg_ge, lg_eq0, lg_le, lg_gt, lg_ltn, lg_gen, lg_eq0n, lg_len, lg_gtn, Nat.zero_le, Nat.not_lt_zero, not_false_eq_true, not_true_eq_false, true_and, and_true]; omega) | omega)
        by_cases o10 : o = 10
        · obtain ⟨u, p, r1, r2, r3, r4, r5⟩ := f7 q1
          refine Or.inr ⟨u, p, o_pos P.tk (o_pos kq (o_pos ak (o_neg (not_not_intro s1) (o_neg (by rw [o2]; exact n9) (o_neg (not_not_intro (by rw [o2, o10]; rfl)) r1))))), o_pos m14' (o_pos j256 (o_bind q2 (o_pos one0 (o_pos j256 (o_neg (not_not_intro (by rw [i0]; exact s2)) (o_neg (by rw [i0, o3]; exact n9) (o_neg (not_not_intro (by rw [i0, o3, o10]; rfl)) r2))))))), r3, r4, r5⟩
        · have n10 : ¬ nI o = 10 := show ¬ nI o = nI 10 by (first | (simp (maxSteps := 4000000) (disch := omega) only [n_0, n_1, n_2, n_3, n_4, n_5, n_6, n_7, n_8, n_9, n_10, n_11, n_12, n_13, n_14, n_15, n_16, n_18, n_20, n_24, n_31, n_32, n_34, n_40, n_41, n_44, n_45, n_47, n_48, n_57, n_58, n_59, n_61, n_63, n_64, n_65, n_68, n_90, n_91, n_93, n_95, n_97, n_100, n_122, n_123, n_125, n_128, n_144, n_200, n_255, n_256, n_300, n_400, n_600, n_1536, n_3980, n_4000, n_4001, n_4300, n_65536, l_0, l_1, l_2, l_3, l_4, l_10, l_48, l_63, l_255, l_300, nI_ltI, nI_leI, nI_eq, nI_clamp, nI_add, pk_sub, pk_mul, nI_ne1, ne1_nI, nI_pge, nI_nlt0, nI_l, lN_i, lN_add, lN_mul, lN_sub, pk_lLT, pk_lLE, pk_lEQ, lg_lt, lg_ge, lg_eq0, lg_le, lg_gt, lg_ltn, lg_gen, lg_eq0n, lg_len, lg_gtn, Nat.zero_le, Nat.not_lt_zero, not_false_eq_true, not_true_eq_false, true_and, and_true]; done) | (simp (maxSteps := 4000000) (disch := omega) only [n_0, n_1, n_2, n_3, n_4, n_5, n_6, n_7, n_8, n_9, n_10, n_11, n_12, n_13, n_14, n_15, n_16, n_18, n_20, n_24, n_31, n_32, n_34, n_40, n_41, n_44, n_45, n_47, n_48, n_57, n_58, n_59, n_61, n_63, n_64, n_65, n_68, n_90, n_91, n_93, n_95, n_97, n_100, n_122, n_123, n_125, n_128, n_144, n_200, n_255, n_256, n_300, n_400, n_600, n_1536, n_3980, n_4000, n_4001, n_4300, n_65536, l_0, l_1, l_2, l_3, l_4, l_10, l_48, l_63, l_255, l_300, nI_ltI, nI_leI, nI_eq, nI_clamp, nI_add, pk_sub, pk_mul, nI_ne1, ne1_nI, nI_pge, nI_nlt0, nI_l, lN_i, lN_add, lN_mul, lN_sub, pk_lLT, pk_lLE, pk_lEQ, lg_lt, lg_ge, lg_eq0, lg_le, lg_gt, lg_ltn, lg_gen, lg_eq0n, lg_len, lg_gtn, Nat.zero_le, Nat.not_lt_zero, not_false_eq_true, not_true_eq_false, true_and, and_true]; omega) | omega)
          obtain ⟨u, u1, u2, u3⟩ := e_p_adv ST0 (by rw [q1]; decide)
          have F1 : FRX (t58 t) (dfJ a) nW g u := u3.x (fun a' k z => by unfold tP at z; unfold t58; omega) (fun k => Or.inl rfl)
          obtain ⟨p1, ep1⟩ : ∃ p1, p1 = hsi h0 1262 13 (nI (k + 1)) := ⟨_, rfl⟩
          rw [← ep1] at u2
          have G1 : FRX m135 (dmJ j) nW h p1 := by rw [ep1]; exact G0.si (by simp [m135])
          have aku : a < hz u ∧ hk u a = 3 := by rw [F1.1.1, F1.1.2.2.1]; exact ak
          have ua : ∀ k, hi u a k = hi g a k := fun k => u3.at (by unfold tP; omega)
          have u2' := u2
          obtain ⟨P1, K1, kc1, b5, b6, m13x, m14x⟩ := u2'
          have p13 : ∀ b k, b ≠ 1262 → hi p1 b k = hi h b k := fun b k hb => by rw [ep1, hi_hsi_ne hb, i0]
          have tk1 : f_m_take h0 = some ((), p1) := by rw [ep1]; exact e_m_take ST0.2.2.2.2.2.2 ST0.2.2.2.2.2.1
          have kc4 : (nI (k + 1)).toNatClampNeg = k + 1 := nI_clamp (by omega)
          have cl : ∀ {X : Option (Int32 × XH)}, (if (hi u t 6) = 3 then (Option.bind (hr u t 0) fun b27 => (if b27 = 7 then (Option.bind (f_x_head (hi u t 5) u) fun r30 => (if a < hz r30.2 ∧ hk r30.2 a = 3 then (Option.bind (f_t_isValue (hi r30.2 a 4) r30.1 r30.2) fun r34 => (if r34.1 = 0 then (b_p_readDefault_99 t r34.2) else (if a < hz r34.2 ∧ hk r34.2 a = 3 then (if ¬ (hi r34.2 a 4) = 8 then (b_p_readDefault_106 t a r30.1 r34.2) else (if 0 ≤ (lg_cmp r30.1 (0 : Int64)) then (b_p_readDefault_106 t a r30.1 r34.2) else (b_p_readDefault_99 t r34.2))) else none))) else none)) else none)) else (Option.bind (f_p_fail t 2 u) fun r41 => (if r41.1 = 0 ∨ r41.1 = 1 then (some (r41.1, r41.2)) else none))) = X → (if t < hz g ∧ hk g t = 7 then (if (hi g t 6) = 61 then (if a < hz g ∧ hk g a = 3 then (if ¬ (hi g a 3) = 0 then (b_p_readDefault_36 t g) else (if (hi g a 4) = 9 then (b_p_readDefault_36 t g) else (if ¬ (hi g a 4) = 10 then (Option.bind (f_p_advance t g) fun r22 => (if t < hz r22.2 ∧ hk r22.2 t = 7 then (if (hi r22.2 t 6) = 3 then (Option.bind (hr r22.2 t 0) fun b27 => (if b27 = 7 then (Option.bind (f_x_head (hi r22.2 t 5) r22.2) fun r30 => (if a < hz r30.2 ∧ hk r30.2 a = 3 then (Option.bind (f_t_isValue (hi r30.2 a 4) r30.1 r30.2) fun r34 => (if r34.1 = 0 then (b_p_readDefault_99 t r34.2) else (if a < hz r34.2 ∧ hk r34.2 a = 3 then (if ¬ (hi r34.2 a 4) = 8 then (b_p_readDefault_106 t a r30.1 r34.2) else (if 0 ≤ (lg_cmp r30.1 (0 : Int64)) then (b_p_readDefault_106 t a r30.1 r34.2) else (b_p_readDefault_99 t r34.2))) else none))) else none)) else none)) else (Option.bind (f_p_fail t 2 r22.2) fun r41 => (if r41.1 = 0 ∨ r41.1 = 1 then (some (r41.1, r41.2)) else none))) else none)) else (b_p_readDefault_36 t g)))) else none) else (some (1, g))) else none) = X := fun r => o_pos P.tk (o_pos kq (o_pos ak (o_neg (not_not_intro s1) (o_neg (by rw [o2]; exact n9) (o_pos (by rw [o2]; exact n10) (o_bind u1 (o_pos u2.1.tk r)))))))
          have ml : ∀ {X : Option (Unit × XH)}, (if (hi p1 1266 (k + 1)) = 3 then (if 0 ≤ (hi p1 1267 (k + 1)) ∧ (hi p1 1267 (k + 1)) < nI 4000 then (if ¬ (hi p1 1264 (Int32.toNatClampNeg (hi p1 1267 (k + 1)))) = 45 then (b_m_defaults_109 (nI j) 0 p1) else (b_m_defaults_109 (nI j) 1 p1)) else none) else (Option.bind (f_m_misfit p1) fun r42 => (some ((), r42.2)))) = X → (if (hi h 1262 14) = 0 then (if 0 ≤ nI j ∧ nI j < nI 256 then (Option.bind (f_m_isSign 61 h0) fun r27 => (if ¬ r27.1 = 0 then (if 0 ≤ nI j ∧ nI j < nI 256 then (if ¬ (hi r27.2 1286 j) = 0 then (b_m_defaults_56 r27.2) else (if (hi r27.2 1287 j) = 9 then (b_m_defaults_56 r27.2) else (if ¬ (hi r27.2 1287 j) = 10 then (Option.bind (f_m_take r27.2) fun r35 => (if 0 ≤ (hi r35.2 1262 13) ∧ (hi r35.2 1262 13) < nI 4001 then (if (hi r35.2 1266 (Int32.toNatClampNeg (hi r35.2 1262 13))) = 3 then (if 0 ≤ (hi r35.2 1267 (Int32.toNatClampNeg (hi r35.2 1262 13))) ∧ (hi r35.2 1267 (Int32.toNatClampNeg (hi r35.2 1262 13))) < nI 4000 then (if ¬ (hi r35.2 1264 (Int32.toNatClampNeg (hi r35.2 1267 (Int32.toNatClampNeg (hi r35.2 1262 13))))) = 45 then (b_m_defaults_109 (nI j) 0 r35.2) else (b_m_defaults_109 (nI j) 1 r35.2)) else none) else (Option.bind (f_m_misfit r35.2) fun r42 => (some ((), r42.2)))) else none)) else (b_m_defaults_56 r27.2)))) else none) else (some ((), r27.2)))) else none) else (some ((), h))) = X := fun r => by
            refine o_pos m14' (o_pos j256 (o_bind q2 (o_pos one0 (o_pos j256 (o_neg (not_not_intro (by rw [i0]; exact s2)) (o_neg (by rw [i0, o3]; exact n9) (o_pos (by rw [i0, o3]; exact n10) (o_bind tk1 ?_))))))))
            show (if 0 ≤ (hi p1 1262 13) ∧ (hi p1 1262 13) < nI 4001 then (if (hi p1 1266 (Int32.toNatClampNeg (hi p1 1262 13))) = 3 then (if 0 ≤ (hi p1 1267 (Int32.toNatClampNeg (hi p1 1262 13))) ∧ (hi p1 1267 (Int32.toNatClampNeg (hi p1 1262 13))) < nI 4000 then (if ¬ (hi p1 1264 (Int32.toNatClampNeg (hi p1 1267 (Int32.toNatClampNeg (hi p1 1262 13))))) = 45 then (b_m_defaults_109 (nI j) 0 p1) else (b_m_defaults_109 (nI j) 1 p1)) else none) else (Option.bind (f_m_misfit p1) fun r42 => (some ((), r42.2)))) else none) = _
            rw [m13x, kc4]
            exact o_pos (by (first | (simp (maxSteps := 4000000) (disch := omega) only [n_0, n_1, n_2, n_3, n_4, n_5, n_6, n_7, n_8, n_9, n_10, n_11, n_12, n_13, n_14, n_15, n_16, n_18, n_20, n_24, n_31, n_32, n_34, n_40, n_41, n_44, n_45, n_47, n_48, n_57, n_58, n_59, n_61, n_63, n_64, n_65, n_68, n_90, n_91, n_93, n_95, n_97, n_100, n_122, n_123, n_125, n_128, n_144, n_200, n_255, n_256, n_300, n_400, n_600, n_1536, n_3980, n_4000, n_4001, n_4300, n_65536, l_0, l_1, l_2, l_3, l_4, l_10, l_48, l_63, l_255, l_300, nI_ltI, nI_leI, nI_eq, nI_clamp, nI_add, pk_sub, pk_mul, nI_ne1, ne1_nI, nI_pge, nI_nlt0, nI_l, lN_i, lN_add, lN_mul, lN_sub, pk_lLT, pk_lLE, pk_lEQ, lg_lt, lg_ge, lg_eq0, lg_le, lg_gt, lg_ltn, lg_gen, lg_eq0n, lg_len, lg_gtn, Nat.zero_le, Nat.not_lt_zero, not_false_eq_true, not_true_eq_false, true_and, and_true]; done) | (simp (maxSteps := 4000000) (disch := omega) only [n_0, n_1, n_2, n_3, n_4, n_5, n_6, n_7, n_8, n_9, n_10, n_11, n_12, n_13, n_14, n_15, n_16, n_18, n_20, n_24, n_31, n_32, n_34, n_40, n_41, n_44, n_45, n_47, n_48, n_57, n_58, n_59, n_61, n_63, n_64, n_65, n_68, n_90, n_91, n_93, n_95, n_97, n_100, n_122, n_123, n_125, n_128, n_144, n_200, n_255, n_256, n_300, n_400, n_600, n_1536, n_3980, n_4000, n_4001, n_4300, n_65536, l_0, l_1, l_2, l_3, l_4, l_10, l_48, l_63, l_255, l_300, nI_ltI, nI_leI, nI_eq, nI_clamp, nI_add, pk_sub, pk_mul, nI_ne1, ne1_nI, nI_pge, nI_nlt0, nI_l, lN_i, lN_add, lN_mul, lN_sub, pk_lLT, pk_lLE, pk_lEQ, lg_lt, lg_ge, lg_eq0, lg_le, lg_gt, lg_ltn, lg_gen, lg_eq0n, lg_len, lg_gtn, Nat.zero_le, Nat.not_lt_zero, not_false_eq_true, not_true_eq_false, true_and, and_true]; omega) | omega)) r
          by_cases qw : hi u 8 (k + 1) = 3
          · obtain ⟨at2, to, s, tn, e67, e68, l1, vv, l2, dg⟩ := (K1.2.2.2.2.1 (k + 1) kc1).wh qw
            have k66 : hi p1 1266 (k + 1) = 3 := (K1.2.2.2.2.1 (k + 1) kc1).whole.mp qw
            have M1 : MTx p1 T n := ⟨by rw [ep1, hi_nk (by decide), i0]; exact M.1, M.2.1, M.2.2.1, fun k hk' => by rw [p13 _ _ (by decide)]; exact M.2.2.2 k hk'⟩
            have n4 := M.2.1
            have tx := M1.2.2.2 at2 (by omega)
            have hd : f_x_head (hi u t 5) u = some (hj u 10 (k + 1), u) := by rw [b5]; exact e_x_head (u := u) K1 kc1 rfl
            obtain ⟨r, r1, r2, r3, r4⟩ := isVal2 (h := u) (g := p1) (v := hj u 10 (k + 1)) o1
            have dgt : b_m_defaults_182 (nI j) (hj u 10 (k + 1)) p1 = (if T at2 = 45 then b_m_defaults_109 (nI j) 1 p1 else b_m_defaults_109 (nI j) 0 p1) := by
              unfold b_m_defaults_109 b_m_defaults_130
              rw [m13x, kc4, e67]
              rcases vv with ⟨v1, v2, v3⟩ | ⟨v1, v2, v3⟩
              · rw [if_pos v1, v3]
                symm
                refine o_pos (by (first | (simp (maxSteps := 4000000) (disch := omega) only [n_0, n_1, n_2, n_3, n_4, n_5, n_6, n_7, n_8, n_9, n_10, n_11, n_12, n_13, n_14, n_15, n_16, n_18, n_20, n_24, n_31, n_32, n_34, n_40, n_41, n_44, n_45, n_47, n_48, n_57, n_58, n_59, n_61, n_63, n_64, n_65, n_68, n_90, n_91, n_93, n_95, n_97, n_100, n_122, n_123, n_125, n_128, n_144, n_200, n_255, n_256, n_300, n_400, n_600, n_1536, n_3980, n_4000, n_4001, n_4300, n_65536, l_0, l_1, l_2, l_3, l_4, l_10, l_48, l_63, l_255, l_300, nI_ltI, nI_leI, nI_eq, nI_clamp, nI_add, pk_sub, pk_mul, nI_ne1, ne1_nI, nI_pge, nI_nlt0, nI_l, lN_i, lN_add, lN_mul, lN_sub, pk_lLT, pk_lLE, pk_lEQ, lg_lt, lg_ge, lg_eq0, lg_le, lg_gt, lg_ltn, lg_gen, lg_eq0n, lg_len, lg_gtn, Nat.zero_le, Nat.not_lt_zero, not_false_eq_true, not_true_eq_false, true_and, and_true]; done) | (simp (maxSteps := 4000000) (disch := omega) only [n_0, n_1, n_2, n_3, n_4, n_5, n_6, n_7, n_8, n_9, n_10, n_11, n_12, n_13, n_14, n_15, n_16, n_18, n_20, n_24, n_31, n_32, n_34, n_40, n_41, n_44, n_45, n_47, n_48, n_57, n_58, n_59, n_61, n_63, n_64, n_65, n_68, n_90, n_91, n_93, n_95, n_97, n_100, n_122, n_123, n_125, n_128, n_144, n_200, n_255, n_256, n_300, n_400, n_600, n_1536, n_3980, n_4000, n_4001, n_4300, n_65536, l_0, l_1, l_2, l_3, l_4, l_10, l_48, l_63, l_255, l_300, nI_ltI, nI_leI, nI_eq, nI_clamp, nI_add, pk_sub, pk_mul, nI_ne1, ne1_nI, nI_pge, nI_nlt0, nI_l, lN_i, lN_add, lN_mul, lN_sub, pk_lLT, pk_lLE, pk_lEQ, lg_lt, lg_ge, lg_eq0, lg_le, lg_gt, lg_ltn, lg_gen, lg_eq0n, lg_len, lg_gtn, Nat.zero_le, Nat.not_lt_zero, not_false_eq_true, not_true_eq_false, true_and, and_true]; omega) | omega)) (o_neg one0 ?_)
                rw [n_1, nI_add]
                have := e_m_digits (j := j) (x2 := nI 1) (s := s) M1 m13x (by omega) e68 tn dg (to - s) s 100000 (by omega) (Nat.le_refl s) (by omega)
                rw [Nat.sub_self, if_neg (show ¬ nI 1 = 0 by decide), v2] at this
                rw [v2]
                exact this
              · rw [if_neg v1, v3]
                symm
                refine o_pos (by (first | (simp (maxSteps := 4000000) (disch := omega) only [n_0, n_1, n_2, n_3, n_4, n_5, n_6, n_7, n_8, n_9, n_10, n_11, n_12, n_13, n_14, n_15, n_16, n_18, n_20, n_24, n_31, n_32, n_34, n_40, n_41, n_44, n_45, n_47, n_48, n_57, n_58, n_59, n_61, n_63, n_64, n_65, n_68, n_90, n_91, n_93, n_95, n_97, n_100, n_122, n_123, n_125, n_128, n_144, n_200, n_255, n_256, n_300, n_400, n_600, n_1536, n_3980, n_4000, n_4001, n_4300, n_65536, l_0, l_1, l_2, l_3, l_4, l_10, l_48, l_63, l_255, l_300, nI_ltI, nI_leI, nI_eq, nI_clamp, nI_add, pk_sub, pk_mul, nI_ne1, ne1_nI, nI_pge, nI_nlt0, nI_l, lN_i, lN_add, lN_mul, lN_sub, pk_lLT, pk_lLE, pk_lEQ, lg_lt, lg_ge, lg_eq0, lg_le, lg_gt, lg_ltn, lg_gen, lg_eq0n, lg_len, lg_gtn, Nat.zero_le, Nat.not_lt_zero, not_false_eq_true, not_true_eq_false, true_and, and_true]; done) | (simp (maxSteps := 4000000) (disch := omega) only [n_0, n_1, n_2, n_3, n_4, n_5, n_6, n_7, n_8, n_9, n_10, n_11, n_12, n_13, n_14, n_15, n_16, n_18, n_20, n_24, n_31, n_32, n_34, n_40, n_41, n_44, n_45, n_47, n_48, n_57, n_58, n_59, n_61, n_63, n_64, n_65, n_68, n_90, n_91, n_93, n_95, n_97, n_100, n_122, n_123, n_125, n_128, n_144, n_200, n_255, n_256, n_300, n_400, n_600, n_1536, n_3980, n_4000, n_4001, n_4300, n_65536, l_0, l_1, l_2, l_3, l_4, l_10, l_48, l_63, l_255, l_300, nI_ltI, nI_leI, nI_eq, nI_clamp, nI_add, pk_sub, pk_mul, nI_ne1, ne1_nI, nI_pge, nI_nlt0, nI_l, lN_i, lN_add, lN_mul, lN_sub, pk_lLT, pk_lLE, pk_lEQ, lg_lt, lg_ge, lg_eq0, lg_le, lg_gt, lg_ltn, lg_gen, lg_eq0n, lg_len, lg_gtn, Nat.zero_le, Nat.not_lt_zero, not_false_eq_true, not_true_eq_false, true_and, and_true]; omega) | omega)) (o_pos rfl ?_)
                have := e_m_digits (j := j) (x2 := 0) (s := s) M1 m13x (by omega) e68 tn dg (to - s) s 100000 (by omega) (Nat.le_refl s) (by omega)
                rw [Nat.sub_self, if_pos rfl, v2] at this
                rw [v2]
                have z0 : nI at2 + 0 = nI at2 := by rw [n_0, nI_add]; rfl
                rw [z0]
                exact this
            have ml2 : ∀ {X : Option (Unit × XH)}, b_m_defaults_182 (nI j) (hj u 10 (k + 1)) p1 = X → (if (hi p1 1266 (k + 1)) = 3 then (if 0 ≤ (hi p1 1267 (k + 1)) ∧ (hi p1 1267 (k + 1)) < nI 4000 then (if ¬ (hi p1 1264 (Int32.toNatClampNeg (hi p1 1267 (k + 1)))) = 45 then (b_m_defaults_109 (nI j) 0 p1) else (b_m_defaults_109 (nI j) 1 p1)) else none) else (Option.bind (f_m_misfit p1) fun r42 => (some ((), r42.2)))) = X := fun r => by
              rw [dgt] at r
              rw [e67, nI_clamp (show at2 < 2 ^ 31 by omega), tx]
              refine o_pos k66 (o_pos (by (first | (simp (maxSteps := 4000000) (disch := omega) only [n_0, n_1, n_2, n_3, n_4, n_5, n_6, n_7, n_8, n_9, n_10, n_11, n_12, n_13, n_14, n_15, n_16, n_18, n_20, n_24, n_31, n_32, n_34, n_40, n_41, n_44, n_45, n_47, n_48, n_57, n_58, n_59, n_61, n_63, n_64, n_65, n_68, n_90, n_91, n_93, n_95, n_97, n_100, n_122, n_123, n_125, n_128, n_144, n_200, n_255, n_256, n_300, n_400, n_600, n_1536, n_3980, n_4000, n_4001, n_4300, n_65536, l_0, l_1, l_2, l_3, l_4, l_10, l_48, l_63, l_255, l_300, nI_ltI, nI_leI, nI_eq, nI_clamp, nI_add, pk_sub, pk_mul, nI_ne1, ne1_nI, nI_pge, nI_nlt0, nI_l, lN_i, lN_add, lN_mul, lN_sub, pk_lLT, pk_lLE, pk_lEQ, lg_lt, lg_ge, lg_eq0, lg_le, lg_gt, lg_ltn, lg_gen, lg_eq0n, lg_len, lg_gtn, Nat.zero_le, Nat.not_lt_zero, not_false_eq_true, not_true_eq_false, true_and, and_true]; done) | (simp (maxSteps := 4000000) (disch := omega) only [n_0, n_1, n_2, n_3, n_4, n_5, n_6, n_7, n_8, n_9, n_10, n_11, n_12, n_13, n_14, n_15, n_16, n_18, n_20, n_24, n_31, n_32, n_34, n_40, n_41, n_44, n_45, n_47, n_48, n_57, n_58, n_59, n_61, n_63, n_64, n_65, n_68, n_90, n_91, n_93, n_95, n_97, n_100, n_122, n_123, n_125, n_128, n_144, n_200, n_255, n_256, n_300, n_400, n_600, n_1536, n_3980, n_4000, n_4001, n_4300, n_65536, l_0, l_1, l_2, l_3, l_4, l_10, l_48, l_63, l_255, l_300, nI_ltI, nI_leI, nI_eq, nI_clamp, nI_add, pk_sub, pk_mul, nI_ne1, ne1_nI, nI_pge, nI_nlt0, nI_l, lN_i, lN_add, lN_mul, lN_sub, pk_lLT, pk_lLE, pk_lEQ, lg_lt, lg_ge, lg_eq0, lg_le, lg_gt, lg_ltn, lg_gen, lg_eq0n, lg_len, lg_gtn, Nat.zero_le, Nat.not_lt_zero, not_false_eq_true, not_true_eq_false, true_and, and_true]; omega) | omega)) ?_)
              have t2 := M.2.2.1 at2
              by_cases c45 : T at2 = 45
              · rw [if_pos c45] at r
                exact o_neg (not_not_intro (by rw [c45]; rfl)) r
              · rw [if_neg c45] at r
                exact o_pos (show ¬ nI (T at2) = nI 45 by (first | (simp (maxSteps := 4000000) (disch := omega) only [n_0, n_1, n_2, n_3, n_4, n_5, n_6, n_7, n_8, n_9, n_10, n_11, n_12, n_13, n_14, n_15, n_16, n_18, n_20, n_24, n_31, n_32, n_34, n_40, n_41, n_44, n_45, n_47, n_48, n_57, n_58, n_59, n_61, n_63, n_64, n_65, n_68, n_90, n_91, n_93, n_95, n_97, n_100, n_122, n_123, n_125, n_128, n_144, n_200, n_255, n_256, n_300, n_400, n_600, n_1536, n_3980, n_4000, n_4001, n_4300, n_65536, l_0, l_1, l_2, l_3, l_4, l_10, l_48, l_63, l_255, l_300, nI_ltI, nI_leI, nI_eq, nI_clamp, nI_add, pk_sub, pk_mul, nI_ne1, ne1_nI, nI_pge, nI_nlt0, nI_l, lN_i, lN_add, lN_mul, lN_sub, pk_lLT, pk_lLE, pk_lEQ, lg_lt, lg_ge, lg_eq0, lg_le, lg_gt, lg_ltn, lg_gen, lg_eq0n, lg_len, lg_gtn, Nat.zero_le, Nat.not_lt_zero, not_false_eq_true, not_true_eq_false, true_and, and_true]; done) | (simp (maxSteps := 4000000) (disch := omega) only [n_0, n_1, n_2, n_3, n_4, n_5, n_6, n_7, n_8, n_9, n_10, n_11, n_12, n_13, n_14, n_15, n_16, n_18, n_20, n_24, n_31, n_32, n_34, n_40, n_41, n_44, n_45, n_47, n_48, n_57, n_58, n_59, n_61, n_63, n_64, n_65, n_68, n_90, n_91, n_93, n_95, n_97, n_100, n_122, n_123, n_125, n_128, n_144, n_200, n_255, n_256, n_300, n_400, n_600, n_1536, n_3980, n_4000, n_4001, n_4300, n_65536, l_0, l_1, l_2, l_3, l_4, l_10, l_48, l_63, l_255, l_300, nI_ltI, nI_leI, nI_eq, nI_clamp, nI_add, pk_sub, pk_mul, nI_ne1, ne1_nI, nI_pge, nI_nlt0, nI_l, lN_i, lN_add, lN_mul, lN_sub, pk_lLT, pk_lLE, pk_lEQ, lg_lt, lg_ge, lg_eq0, lg_le, lg_gt, lg_ltn, lg_gen, lg_eq0n, lg_len, lg_gtn, Nat.zero_le, Nat.not_lt_zero, not_false_eq_true, not_true_eq_false, true_and, and_true]; omega) | omega)) r
            have q87 : hi p1 1287 j = nI o := by rw [p13 _ _ (by decide)]; exact o3
            have no6 : ∃ u' p', b_p_readDefault_99 t u = some (0, u') ∧ b_m_defaults_213 p1 = some ((), p') ∧ FLT u' p' t ∧ FRX (t58 t) (dfJ a) nW g u' ∧ FRX m135 (dmJ j) nW h p' := by
              obtain ⟨u', p', s1, s2, s3, s4, s5, s6⟩ := u2.fl (x := 6) (by rw [qw]; decide) (by decide)
              refine ⟨u', p', ?_, ?_, s3, F1.trans (s4.x (fun a' k z => by unfold tF at z; unfold t58; omega) (fun k => Or.inl rfl)), G1.trans (s5.x (fun a' k z => by unfold m14 at z; unfold m135; omega) (fun k => Or.inl rfl))⟩
              · unfold b_p_readDefault_99
                exact o_pos P1.tk (o_bind s1 (o_pos (Or.inl rfl) rfl))
              · unfold b_m_defaults_213
                exact o_bind s2 rfl
            have yes : ∃ u' p' k', b_p_readDefault_106 t a (hj u 10 (k + 1)) u = some (1, u') ∧ b_m_defaults_220 (nI j) (hj u 10 (k + 1)) p1 = some ((), p') ∧ ST T n c u' p' t S k' ∧ hj u' a 8 = hj p' 1291 j ∧ FRX (t58 t) (dfJ a) nW g u' ∧ FRX m135 (dmJ j) nW h p' := by
              obtain ⟨v, ev⟩ : ∃ v, v = hsj u a 8 (hj u 10 (k + 1)) := ⟨_, rfl⟩
              obtain ⟨p2, ep2⟩ : ∃ p2, p2 = hsj p1 1291 j (hj u 10 (k + 1)) := ⟨_, rfl⟩
              have Fv : FRX (xP S t) (xJ S t) (wW S t) u v := by rw [ev]; exact FRX.refl.sj (Or.inr (Or.inr at'))
              have Gv : FRX xM nJ nW p1 p2 := by rw [ep2]; exact FRX.refl.sj (Or.inr rfl)
              have STv := u2.con Fv Gv
              obtain ⟨y, y1, y2, y3⟩ := e_p_adv STv (by rw [Fv.at (by unfold xP; omega), qw]; decide)
              refine ⟨y, _, k + 1 + 1, ?_, ?_, y2, ?_, ?_, ?_⟩
              · unfold b_p_readDefault_106
                rw [← ev]
                exact o_pos aku (o_pos P1.tk (o_bind y1 rfl))
              · unfold b_m_defaults_220
                rw [jc, ← ep2]
                exact o_pos j256 (o_bind (e_m_take STv.2.2.2.2.2.2 STv.2.2.2.2.2.1) rfl)
              · rw [y3.hj (by omega), ev, hj_at, hj_hsi, ep2, hj_at]
              · exact (F1.trans (by rw [ev]; exact FRX.refl.sj (Or.inr ⟨rfl, rfl⟩))).trans (y3.x (fun a' k z => by unfold tP at z; unfold t58; omega) (fun k => Or.inl rfl))
              · exact (G1.trans (by rw [ep2]; exact FRX.refl.sj (Or.inr ⟨rfl, rfl⟩))).si (by simp [m135])
            have kq3 : hi u t 6 = 3 := by rw [b6]; exact qw
            have fin0 : ∀ {rc rm}, (∃ u' p', rc = some (0, u') ∧ rm = some ((), p') ∧ FLT u' p' t ∧ FRX (t58 t) (dfJ a) nW g u' ∧ FRX m135 (dmJ j) nW h p') → DFO T n c S t a j g h rc rm := fun ⟨u', p', q1, q2, q3, q4, q5⟩ => Or.inr ⟨u', p', q1, q2, q3, q4, q5⟩
            have fin1 : ∀ {rc rm}, (∃ u' p' k', rc = some (1, u') ∧ rm = some ((), p') ∧ ST T n c u' p' t S k' ∧ hj u' a 8 = hj p' 1291 j ∧ FRX (t58 t) (dfJ a) nW g u' ∧ FRX m135 (dmJ j) nW h p') → DFO T n c S t a j g h rc rm := fun ⟨u', p', k', q1, q2, q3, q4, q5, q6⟩ => Or.inl ⟨u', p', k', q1, q2, q3, q4, fun z => absurd s2 z, q5, q6⟩
            by_cases r0 : r = 0
            · have c1 := cl (o_pos kq3 (o_bind P1.2.2.2.2.2.1 (o_pos rfl (o_bind hd (o_pos aku (o_bind (by rw [ua, o2]; exact r3) (o_pos r0 rfl)))))))
              have c2 : b_m_defaults_182 (nI j) (hj u 10 (k + 1)) p1 = b_m_defaults_213 p1 := by
                unfold b_m_defaults_182
                rw [jc]
                exact o_pos j256 (o_bind (by rw [q87]; exact r4) (o_pos r0 rfl))
              rw [c1, ml (ml2 c2)]
              exact fin0 no6
            · by_cases o8 : o = 8
              · by_cases ng : 0 ≤ (lg_cmp (hj u 10 (k + 1)) (0 : Int64))
                · have c1 := cl (o_pos kq3 (o_bind P1.2.2.2.2.2.1 (o_pos rfl (o_bind hd (o_pos aku (o_bind (by rw [ua, o2]; exact r3) (o_neg r0 (o_pos aku (o_neg (not_not_intro (by rw [ua, o2, o8]; rfl)) (o_pos ng rfl))))))))))
                  have c2 : b_m_defaults_182 (nI j) (hj u 10 (k + 1)) p1 = b_m_defaults_220 (nI j) (hj u 10 (k + 1)) p1 := by
                    unfold b_m_defaults_182
                    rw [jc]
                    exact o_pos j256 (o_bind (by rw [q87]; exact r4) (o_neg r0 (o_pos j256 (o_neg (not_not_intro (by rw [q87, o8]; rfl)) (o_pos ng rfl)))))
                  rw [c1, ml (ml2 c2)]
                  exact fin1 yes
                · have c1 := cl (o_pos kq3 (o_bind P1.2.2.2.2.2.1 (o_pos rfl (o_bind hd (o_pos aku (o_bind (by rw [ua, o2]; exact r3) (o_neg r0 (o_pos aku (o_neg (not_not_intro (by rw [ua, o2, o8]; rfl)) (o_neg ng rfl))))))))))
                  have c2 : b_m_defaults_182 (nI j) (hj u 10 (k + 1)) p1 = b_m_defaults_213 p1 := by
                    unfold b_m_defaults_182
                    rw [jc]
                    exact o_pos j256 (o_bind (by rw [q87]; exact r4) (o_neg r0 (o_pos j256 (o_neg (not_not_intro (by rw [q87, o8]; rfl)) (o_neg ng rfl)))))
                  rw [c1, ml (ml2 c2)]
                  exact fin0 no6
              · have n8 : ¬ nI o = 8 := show ¬ nI o = nI 8 by (first | (simp (maxSteps := 4000000) (disch := omega) only [n_0, n_1, n_2, n_3, n_4, n_5, n_6, n_7, n_8, n_9, n_10, n_11, n_12, n_13, n_14, n_15, n_16, n_18, n_20, n_24, n_31, n_32, n_34, n_40, n_41, n_44, n_45, n_47, n_48, n_57, n_58, n_59, n_61, n_63, n_64, n_65, n_68, n_90, n_91, n_93, n_95, n_97, n_100, n_122, n_123, n_125, n_128, n_144, n_200, n_255, n_256, n_300, n_400, n_600, n_1536, n_3980, n_4000, n_4001, n_4300, n_65536, l_0, l_1, l_2, l_3, l_4, l_10, l_48, l_63, l_255, l_300, nI_ltI, nI_leI, nI_eq, nI_clamp, nI_add, pk_sub, pk_mul, nI_ne1, ne1_nI, nI_pge, nI_nlt0, nI_l, lN_i, lN_add, lN_mul, lN_sub, pk_lLT, pk_lLE, pk_lEQ, lg_lt, lg_ge, lg_eq0, lg_le, lg_gt, lg_ltn, lg_gen, lg_eq0n, lg_len, lg_gtn, Nat.zero_le, Nat.not_lt_zero, not_false_eq_true, not_true_eq_false, true_and, and_true]; done) | (simp (maxSteps := 4000000) (disch := omega) only [n_0, n_1, n_2, n_3, n_4, n_5, n_6, n_7, n_8, n_9, n_10, n_11, n_12, n_13, n_14, n_15, n_16, n_18, n_20, n_24, n_31, n_32, n_34, n_40, n_41, n_44, n_45, n_47, n_48, n_57, n_58, n_59, n_61, n_63, n_64, n_65, n_68, n_90, n_91, n_93, n_95, n_97, n_100, n_122, n_123, n_125, n_128, n_144, n_200, n_255, n_256, n_300, n_400, n_600, n_1536, n_3980, n_4000, n_4001, n_4300, n_65536, l_0, l_1, l_2, l_3, l_4, l_10, l_48, l_63, l_255, l_300, nI_ltI, nI_leI, nI_eq, nI_clamp, nI_add, pk_sub, pk_mul, nI_ne1, ne1_nI, nI_pge, nI_nlt0, nI_l, lN_i, lN_add, lN_mul, lN_sub, pk_lLT, pk_lLE, pk_lEQ, lg_lt, lg_ge, lg_eq0, lg_le, lg_gt, lg_ltn, lg_gen, lg_eq0n, lg_len, lg_gtn, Nat.zero_le, Nat.not_lt_zero, not_false_eq_true, not_true_eq_false, true_and, and_true]; omega) | omega)
                have c1 := cl (o_pos kq3 (o_bind P1.2.2.2.2.2.1 (o_pos rfl (o_bind hd (o_pos aku (o_bind (by rw [ua, o2]; exact r3) (o_neg r0 (o_pos aku (o_pos (by rw [ua, o2]; exact n8) rfl)))))))))
                have c2 : b_m_defaults_182 (nI j) (hj u 10 (k + 1)) p1 = b_m_defaults_220 (nI j) (hj u 10 (k + 1)) p1 := by
                  unfold b_m_defaults_182
                  rw [jc]
                  exact o_pos j256 (o_bind (by rw [q87]; exact r4) (o_neg r0 (o_pos j256 (o_pos (by rw [q87]; exact n8) rfl))))
                rw [c1, ml (ml2 c2)]
                exact fin1 yes
          · obtain ⟨u', p', r1, r2, r3, r4, r5, r6⟩ := u2.mis
            have nk : ¬ hi p1 1266 (k + 1) = 3 := fun z => qw ((K1.2.2.2.2.1 (k + 1) kc1).whole.mpr z)
            exact Or.inr ⟨u', p', cl (o_neg (by rw [b6]; exact qw) (o_bind r1 (o_pos (Or.inl rfl) rfl))), ml (o_neg nk (o_bind r2 rfl)), r3, F1.trans (r4.x (fun a' k z => by unfold tF at z; unfold t58; omega) (fun k => Or.inl rfl)), G1.trans (r5.x (fun a' k z => by unfold m14 at z; unfold m135; omega) (fun k => Or.inl rfl))⟩
    · obtain ⟨u, p, r1, r2, r3, r4, r5⟩ := f7 q1
      exact Or.inr ⟨u, p, o_pos P.tk (o_pos kq (o_pos ak (o_pos s1 r1))), o_pos m14' (o_pos j256 (o_bind q2 (o_pos one0 (o_pos j256 (o_pos (by rw [i0]; exact s2) r2))))), r3, r4, r5⟩
  · refine Or.inl ⟨g, h0, k, o_pos P.tk (o_neg (by rw [a6]; exact q1) rfl), o_pos m14' (o_pos j256 (o_bind q2 (o_neg (not_not_intro rfl) rfl))), ST0, by rw [j0]; exact e8, fun _ => j0, FRX.refl, G0⟩
end Df
