/-! The lexers: all lexemes on both sides -/

section All
variable {h g : XH} {T : Nat → Nat} {n c j : Nat}
theorem sg_cases {c : Nat} (q : sgB c = true) : c = 123 ∨ c = 125 ∨ c = 91 ∨ c = 93 ∨ c = 40 ∨ c = 41 ∨ c = 58 ∨ c = 59 ∨ c = 61 ∨ c = 44 := by
  unfold sgB at q
  simp only [List.contains_eq_mem, List.mem_cons, List.not_mem_nil, or_false, decide_eq_true_eq] at q
  exact q
theorem sg_none {c : Nat} (q : ¬ sgB c = true) : ¬ c = 123 ∧ ¬ c = 125 ∧ ¬ c = 91 ∧ ¬ c = 93 ∧ ¬ c = 40 ∧ ¬ c = 41 ∧ ¬ c = 58 ∧ ¬ c = 59 ∧ ¬ c = 61 ∧ ¬ c = 44 := by
  refine ⟨?_, ?_, ?_, ?_, ?_, ?_, ?_, ?_, ?_, ?_⟩ <;> intro z <;> subst z <;> exact q (by decide)
theorem tk_sign (C : CTx g T n) (M : MTx h T n) (e4 : hi g 7 4 = nI c) (c4 : c ≤ 4000) (e5 : hi g 7 5 = nI j) (jn : j < n) (e12 : hi h 1262 12 = nI c) (nlt : ¬ isLt (T j)) (nd : ¬ isDg (T j)) (n45 : ¬ T j = 45) : STEP T n g h c j (if (xix 10000027 (UInt32.toInt32 (Int32.toUInt32 (nI (T j)) % 65536))) < 0 then (b_x_takeOne_89 1 (hsi g 7 5 (nI j + 1))) else (b_x_takeOne_89 (nI (T j)) (hsi g 7 5 (nI j + 1)))) (fun K => b_m_cut_106 K (nI j) h) := by
  have n4 := C.2.2.1
  have lT := M.2.2.1 j
  have sx := sg_x (T j) lT
  have kp : ∀ kd : Int32, b_x_takeOne_89 kd (hsi g 7 5 (nI j + 1)) = f_x_keep kd (nI j) 0 0 (hsi g 7 5 (nI (j + 1))) := by
    intro kd
    unfold b_x_takeOne_89
    rw [nI_1, hi_at, nI_pred]
    cases f_x_keep kd (nI j) 0 0 (hsi g 7 5 (nI (j + 1))) with
    | none => rfl
    | some v => rfl
  have mo : ∀ (mk : Int32), (sgB (T j) = true ∧ mk = 4) ∨ (¬ sgB (T j) = true ∧ mk = 1) → ∀ p, f_m_lexeme mk (nI j) (nI (j + 1)) (nI (T j)) h = some ((), p) → f_m_one (nI j) h = some (nI (j + 1), p) := by
    intro mk hk' p lx
    unfold f_m_one
    rw [nI_clamp (show j < 2 ^ 31 by omega), M.2.2.2 j jn, nI_1]
    refine o_pos (by (first | (simp (maxSteps := 4000000) (disch := omega) only [n_0, n_1, n_2, n_3, n_4, n_5, n_6, n_7, n_8, n_9, n_10, n_11, n_12, n_13, n_14, n_15, n_16, n_18, n_20, n_24, n_31, n_32, n_34, n_40, n_41, n_44, n_45, n_47, n_48, n_57, n_58, n_59, n_61, n_63, n_64, n_65, n_68, n_90, n_91, n_93, n_95, n_97, n_100, n_122, n_123, n_125, n_128, n_144, n_200, n_255, n_256, n_300, n_400, n_600, n_1536, n_3980, n_4000, n_4001, n_4300, n_65536, l_0, l_1, l_2, l_3, l_4, l_10, l_48, l_63, l_255, l_300, nI_ltI, nI_leI, nI_eq, nI_clamp, nI_add, pk_sub, pk_mul, nI_ne1, ne1_nI, nI_pge, nI_nlt0, nI_l, lN_i, lN_add, lN_mul, lN_sub, pk_lLT, pk_lLE, pk_lEQ, lg_lt, lg_ge, lg_eq0, lg_le, lg_gt, lg_ltn, lg_gen, lg_eq0n, lg_len, lg_gtn, Nat.zero_le, Nat.not_lt_zero, not_false_eq_true, not_true_eq_false, true_and, and_true]; done) | (simp (maxSteps := 4000000) (disch := omega) only [n_0, n_1, n_2, n_3, n_4, n_5, n_6, n_7, n_8, n_9, n_10, n_11, n_12, n_13, n_14, n_15, n_16, n_18, n_20, n_24, n_31, n_32, n_34, n_40, n_41, n_44, n_45, n_47, n_48, n_57, n_58, n_59, n_61, n_63, n_64, n_65, n_68, n_90, n_91, n_93, n_95, n_97, n_100, n_122, n_123, n_125, n_128, n_144, n_200, n_255, n_256, n_300, n_400, n_600, n_1536, n_3980, n_4000, n_4001, n_4300, n_65536, l_0, l_1, l_2, l_3, l_4, l_10, l_48, l_63, l_255, l_300, nI_ltI, nI_leI, nI_eq, nI_clamp, nI_add, pk_sub, pk_mul, nI_ne1, ne1_nI, nI_pge, nI_nlt0, nI_l, lN_i, lN_add, lN_mul, lN_sub, pk_lLT, pk_lLE, pk_lEQ, lg_lt, lg_ge, lg_eq0, lg_le, lg_gt, lg_ltn, lg_gen, lg_eq0n, lg_len, lg_gtn, Nat.zero_le, Nat.not_lt_zero, not_false_eq_true, not_true_eq_false, true_and, and_true]; omega) | omega)) ?_
    rcases e_m_isLetter (h := h) lT with ⟨q1, q2⟩ | ⟨q1, q2⟩
    · exact absurd q1 nlt
    · rcases e_m_isDigit (h := h) lT with ⟨p1, p2⟩ | ⟨p1, p2⟩
      · exact absurd p1 nd
      · refine o_bind q2 (o_pos rfl (o_bind p2 (o_neg (not_not_intro rfl) (o_pos (show ¬ nI (T j) = nI 45 by (first | (simp (maxSteps := 4000000) (disch := omega) only [n_0, n_1, n_2, n_3, n_4, n_5, n_6, n_7, n_8, n_9, n_10, n_11, n_12, n_13, n_14, n_15, n_16, n_18, n_20, n_24, n_31, n_32, n_34, n_40, n_41, n_44, n_45, n_47, n_48, n_57, n_58, n_59, n_61, n_63, n_64, n_65, n_68, n_90, n_91, n_93, n_95, n_97, n_100, n_122, n_123, n_125, n_128, n_144, n_200, n_255, n_256, n_300, n_400, n_600, n_1536, n_3980, n_4000, n_4001, n_4300, n_65536, l_0, l_1, l_2, l_3, l_4, l_10, l_48, l_63, l_255, l_300, nI_ltI, nI_leI, nI_eq, nI_clamp, nI_add, pk_sub, pk_mul, nI_ne1, ne1_nI, nI_pge, nI_nlt0, nI_l, lN_i, lN_add, lN_mul, lN_sub, pk_lLT, pk_lLE, pk_lEQ, lg_lt, lg_ge, lg_eq0, lg_le, lg_gt, lg_ltn, lg_gen, lg_eq0n, lg_len, lg_gtn, Nat.zero_le, Nat.not_lt_zero, not_false_eq_true, not_true_eq_false, true_and, and_true]; done) | (simp (maxSteps := 4000000) (disch := omega) only [n_0, n_1, n_2, n_3, n_4, n_5, n_6, n_7, n_8, n_9, n_10, n_11, n_12, n_13, n_14, n_15, n_16, n_18, n_20, n_24, n_31, n_32, n_34, n_40, n_41, n_44, n_45, n_47, n_48, n_57, n_58, n_59, n_61, n_63, n_64, n_65, n_68, n_90, n_91, n_93, n_95, n_97, n_100, n_122, n_123, n_125, n_128, n_144, n_200, n_255, n_256, n_300, n_400, n_600, n_1536, n_3980, n_4000, n_4001, n_4300, n_65536, l_0, l_1, l_2, l_3, l_4, l_10, l_48, l_63, l_255, l_300, nI_ltI, nI_leI, nI_eq, nI_clamp, nI_add, pk_sub, pk_mul, nI_ne1, ne1_nI, nI_pge, nI_nlt0, nI_l, lN_i, lN_add, lN_mul, lN_sub, pk_lLT, pk_lLE, pk_lEQ, lg_lt, lg_ge, lg_eq0, lg_le, lg_gt, lg_ltn, lg_gen, lg_eq0n, lg_len, lg_gtn, Nat.zero_le, Nat.not_lt_zero, not_false_eq_true, not_true_eq_false, true_and, and_true]; omega) | omega)) ?_))))
        unfold b_m_one_150 b_m_one_210 b_m_one_215 b_m_one_228
        dsimp only
        rcases hk' with ⟨k1, k2⟩ | ⟨k1, k2⟩
        · rw [k2] at lx
          have fi : (if (1 : Int32) = 0 then (Option.bind (f_m_lexeme 1 (nI j) (nI (j + 1)) (nI (T j)) h) fun r1 => some (nI (j + 1), r1.2)) else (Option.bind (f_m_lexeme 4 (nI j) (nI (j + 1)) (nI (T j)) h) fun r1 => some (nI (j + 1), r1.2))) = some (nI (j + 1), p) := o_neg one0 (o_bind lx rfl)
          rcases sg_cases k1 with z | z | z | z | z | z | z | z | z | z <;> rw [z] at fi ⊢
          · exact o_pos rfl fi
          · exact o_neg (by decide) (o_pos rfl fi)
          · exact o_neg (by decide) (o_neg (by decide) (o_pos rfl fi))
          · exact o_neg (by decide) (o_neg (by decide) (o_neg (by decide) (o_pos rfl fi)))
          · exact o_neg (by decide) (o_neg (by decide) (o_neg (by decide) (o_neg (by decide) (o_pos rfl fi))))
          · exact o_neg (by decide) (o_neg (by decide) (o_neg (by decide) (o_neg (by decide) (o_neg (by decide) (o_pos rfl fi)))))
          · exact o_neg (by decide) (o_neg (by decide) (o_neg (by decide) (o_neg (by decide) (o_neg (by decide) (o_neg (by decide) (o_pos rfl fi))))))
          · exact o_neg (by decide) (o_neg (by decide) (o_neg (by decide) (o_neg (by decide) (o_neg (by decide) (o_neg (by decide) (o_neg (by decide) (o_pos rfl fi)))))))
          · exact o_neg (by decide) (o_neg (by decide) (o_neg (by decide) (o_neg (by decide) (o_neg (by decide) (o_neg (by decide) (o_neg (by decide) (o_neg (by decide) (o_pos rfl fi))))))))
          · exact o_neg (by decide) (o_neg (by decide) (o_neg (by decide) (o_neg (by decide) (o_neg (by decide) (o_neg (by decide) (o_neg (by decide) (o_neg (by decide) (o_neg (by decide) (o_neg (not_not_intro rfl) fi)))))))))
        · rw [k2] at lx
          have ns := sg_none k1
          exact o_neg (show ¬ nI (T j) = nI 123 by (first | (simp (maxSteps := 4000000) (disch := omega) only [n_0, n_1, n_2, n_3, n_4, n_5, n_6, n_7, n_8, n_9, n_10, n_11, n_12, n_13, n_14, n_15, n_16, n_18, n_20, n_24, n_31, n_32, n_34, n_40, n_41, n_44, n_45, n_47, n_48, n_57, n_58, n_59, n_61, n_63, n_64, n_65, n_68, n_90, n_91, n_93, n_95, n_97, n_100, n_122, n_123, n_125, n_128, n_144, n_200, n_255, n_256, n_300, n_400, n_600, n_1536, n_3980, n_4000, n_4001, n_4300, n_65536, l_0, l_1, l_2, l_3, l_4, l_10, l_48, l_63, l_255, l_300, nI_ltI, nI_leI, nI_eq, nI_clamp, nI_add, pk_sub, pk_mul, nI_ne1, ne1_nI, nI_pge, nI_nlt0, nI_l, lN_i, lN_add, lN_mul, lN_sub, pk_lLT, pk_lLE, pk_lEQ, lg_lt, lg_ge, lg_eq0, lg_le, lg_gt, lg_ltn, lg_gen, lg_eq0n, lg_len, lg_gtn, Nat.zero_le, Nat.not_lt_zero, not_false_eq_true, not_true_eq_false, true_and, and_true]; done) | (simp (maxSteps := 4000000) (disch := omega) only [n_0, n_1, n_2, n_3, n_4, n_5, n_6, n_7, n_8, n_9, n_10, n_11, n_12, n_13, n_14, n_15, n_16, n_18, n_20, n_24, n_31, n_32, n_34, n_40, n_41, n_44, n_45, n_47, n_48, n_57, n_58, n_59, n_61, n_63, n_64, n_65, n_68, n_90, n_91, n_93, n_95, n_97, n_100, n_122, n_123, n_125, n_128, n_144, n_200, n_255, n_256, n_300, n_400, n_600, n_1536, n_3980, n_4000, n_4001, n_4300, n_65536, l_0, l_1, l_2, l_3, l_4, l_10, l_48, l_63, l_255, l_300, nI_ltI, nI_leI, nI_eq, nI_clamp, nI_add, pk_sub, pk_mul, nI_ne1, ne1_nI, nI_pge, nI_nlt0, nI_l, lN_i, lN_add, lN_mul, lN_sub, pk_lLT, pk_lLE, pk_lEQ, lg_lt, lg_ge, lg_eq0, lg_le, lg_gt, lg_ltn, lg_gen, lg_eq0n, lg_len, lg_gtn, Nat.zero_le, Nat.not_lt_zero, not_false_eq_true, not_true_eq_false, true_and, and_true]; omega) | omega)) (o_neg (show ¬ nI (T j) = nI 125 by (first | (simp (maxSteps := 4000000) (disch := omega) only [n_0, n_1, n_2, n_3, n_4, n_5, n_6, n_7, n_8, n_9, n_10, n_11, n_12, n_13, n_14, n_15, n_16, n_18, n_20, n_24, n_31, n_32, n_34, n_40, n_41, n_44, n_45, n_47, n_48, n_57, n_58, n_59, n_61, n_63, n_64, n_65, n_68, n_90, n_91, n_93, n_95, n_97, n_100, n_122, n_123, n_125, n_128, n_144, n_200, n_255, n_256, n_300, n_400, n_600, n_1536, n_3980, n_4000, n_4001, n_4300, n_65536, l_0, l_1, l_2, l_3, l_4, l_10, l_48, l_63, l_255, l_300, nI_ltI, nI_leI, nI_eq, nI_clamp, nI_add, pk_sub, pk_mul, nI_ne1, ne1_nI, nI_pge, nI_nlt0, nI_l, lN_i, lN_add, lN_mul, lN_sub, pk_lLT, pk_lLE, pk_lEQ, lg_lt, lg_ge, lg_eq0, lg_le, lg_gt, lg_ltn, lg_gen, lg_eq0n, lg_len, lg_gtn, Nat.zero_le, Nat.not_lt_zero, not_false_eq_true, not_true_eq_false, true_and, and_true]; done) | (simp (maxSteps := 4000000) (disch := omega) only [n_0, n_1, n_2, n_3, n_4, n_5, n_6, n_7, n_8, n_9, n_10, n_11, n_12, n_13, n_14, n_15, n_16, n_18, n_20, n_24, n_31, n_32, n_34, n_40, n_41, n_44, n_45, n_47, n_48, n_57, n_58, n_59, n_61, n_63, n_64, n_65, n_68, n_90, n_91, n_93, n_95, n_97, n_100, n_122, n_123, n_125, n_128, n_144, n_200, n_255, n_256, n_300, n_400, n_600, n_1536, n_3980, n_4000, n_4001, n_4300, n_65536, l_0, l_1, l_2, l_3, l_4, l_10, l_48, l_63, l_255, l_300, nI_ltI, nI_leI, nI_eq, nI_clamp, nI_add, pk_sub, pk_mul, nI_ne1, ne1_nI, nI_pge, nI_nlt0, nI_l, lN_i, lN_add, lN_mul, lN_sub, pk_lLT, pk_lLE, pk_lEQ, lg_lt, lg_ge, lg_eq0, lg_le, lg_gt, lg_ltn, lg_gen, lg_eq0n, lg_len, lg_gtn, Nat.zero_le, Nat.not_lt_zero, not_false_eq_true, not_true_eq_false, true_and, and_true]; omega) | omega)) (o_neg (show ¬ nI (T j) = nI 91 by (first | (simp (maxSteps := 4000000) (disch := omega) only [n_0, n_1, n_2, n_3, n_4, n_5, n_6, n_7, n_8, n_9, n_10, n_11, n_12, n_13, n_14, n_15, n_16, n_18, n_20, n_24, n_31, n_32, n_34, n_40, n_41, n_44, n_45, n_47, n_48, n_57, n_58, n_59, n_61, n_63, n_64, n_65, n_68, n_90, n_91, n_93, n_95, n_97, n_100, n_122, n_123, n_125, n_128, n_144, n_200, n_255, n_256, n_300, n_400, n_600, n_1536, n_3980, n_4000, n_4001, n_4300, n_65536, l_0, l_1, l_2, l_3, l_4, l_10, l_48, l_63, l_255, l_300, nI_ltI, nI_leI, nI_eq, nI_clamp, nI_add, pk_sub, pk_mul, nI_ne1, ne1_nI, nI_pge, nI_nlt0, nI_l, lN_i, lN_add, lN_mul, lN_sub, pk_lLT, pk_lLE, pk_lEQ, lg_lt, lg_ge, lg_eq0, lg_le, lg_gt, lg_ltn, lg_gen, lg_eq0n, lg_len, lg_gtn, Nat.zero_le, Nat.not_lt_zero, not_false_eq_true, not_true_eq_false, true_and, and_true]; done) | (simp (maxSteps := 4000000) (disch := omega) only [n_0, n_1, n_2, n_3, n_4, n_5, n_6, n_7, n_8, n_9, n_10, n_11, n_12, n_13, n_14, n_15, n_16, n_18, n_20, n_24, n_31, n_32, n_34, n_40, n_41, n_44, n_45, n_47, n_48, n_57, n_58, n_59, n_61, n_63, n_64, n_65, n_68, n_90, n_91, n_93, n_95, n_97, n_100, n_122, n_123, n_125, n_128, n_144, n_200, n_255, n_256, n_300, n_400, n_600, n_1536, n_3980, n_4000, n_4001, n_4300, n_65536, l_0, l_1, l_2, l_3, l_4, l_10, l_48, l_63, l_255, l_300, nI_ltI, nI_leI, nI_eq, nI_clamp, nI_add, pk_sub, pk_mul, nI_ne1, ne1_nI, nI_pge, nI_nlt0, nI_l, lN_i, lN_add, lN_mul, lN_sub, pk_lLT, pk_lLE, pk_lEQ, lg_lt, lg_ge, lg_eq0, lg_le, lg_gt, lg_ltn, lg_gen, lg_eq0n, lg_len, lg_gtn, Nat.zero_le, Nat.not_lt_zero, not_false_eq_true, not_true_eq_false, true_and, and_true]; omega) | omega)) (o_neg (show ¬ nI (T j) = nI 93 by (first | (simp (maxSteps := 4000000) (disch := omega) only [n_0, n_1, n_2, n_3, n_4, n_5, n_6, n_7, n_8, n_9, n_10, n_11, n_12, n_13, n_14, n_15, n_16, n_18, n_20, n_24, n_31, n_32, n_34, n_40, n_41, n_44, n_45, n_47, n_48, n_57, n_58, n_59, n_61, n_63, n_64, n_65, n_68, n_90, n_91, n_93, n_95, n_97, n_100, n_122, n_123, n_125, n_128, n_144, n_200, n_255, n_256, n_300, n_400, n_600, n_1536, n_3980, n_4000, n_4001, n_4300, n_65536, l_0, l_1, l_2, l_3, l_4, l_10, l_48, l_63, l_255, l_300, nI_ltI, nI_leI, nI_eq, nI_clamp, nI_add, pk_sub, pk_mul, nI_ne1, ne1_nI, nI_pge, nI_nlt0, nI_l, lN_i, lN_add, lN_mul, lN_sub, pk_lLT, pk_lLE, pk_lEQ, lg_lt, lg_ge, lg_eq0, lg_le, lg_gt, lg_ltn, lg_gen, lg_eq0n, lg_len, lg_gtn, Nat.zero_le, Nat.not_lt_zero, not_false_eq_true, not_true_eq_false, true_and, and_true]; done) | (simp (maxSteps := 4000000) (disch := omega) only [n_0, n_1, n_2, n_3, n_4, n_5, n_6, n_7, n_8, n_9, n_10, n_11, n_12, n_13, n_14, n_15, n_16, n_18, n_20, n_24, n_31, n_32, n_34, n_40, n_41, n_44, n_45, n_47, n_48, n_57, n_58, n_59, n_61, n_63, n_64, n_65, n_68, n_90, n_91, n_93, n_95, n_97, n_100, n_122, n_123, n_125, n_128, n_144, n_200, n_255, n_256, n_300, n_400, n_600, n_1536, n_3980, n_4000, n_4001, n_4300, n_65536, l_0, l_1, l_2, l_3, l_4, l_10, l_48, l_63, l_255, l_300, nI_ltI, nI_leI, nI_eq, nI_clamp, nI_add, pk_sub, pk_mul, nI_ne1, ne1_nI, nI_pge, nI_nlt0, nI_l, lN_i, lN_add, lN_mul, lN_sub, pk_lLT, pk_lLE, pk_lEQ, lg_lt, lg_ge, lg_eq0, lg_le, lg_gt, lg_ltn, lg_gen, lg_eq0n, lg_len, lg_gtn, Nat.zero_le, Nat.not_lt_zero, not_false_eq_true, not_true_eq_false, true_and, and_true]; omega) | omega)) (o_neg (show ¬ nI (T j) = nI 40 by (first | (simp (maxSteps := 4000000) (disch := omega) only [n_0, n_1, n_2, n_3, n_4, n_5, n_6, n_7, n_8, n_9, n_10, n_11, n_12, n_13, n_14, n_15, n_16, n_18, n_20, n_24, n_31, n_32, n_34, n_40, n_41, n_44, n_45, n_47, n_48, n_57, n_58, n_59, n_61, n_63, n_64, n_65, n_68, n_90, n_91, n_93, n_95, n_97, n_100, n_122, n_123, n_125, n_128, n_144, n_200, n_255, n_256, n_300, n_400, n_600, n_1536, n_3980, n_4000, n_4001, n_4300, n_65536, l_0, l_1, l_2, l_3, l_4, l_10, l_48, l_63, l_255, l_300, nI_ltI, nI_leI, nI_eq, nI_clamp, nI_add, pk_sub, pk_mul, nI_ne1, ne1_nI, nI_pge, nI_nlt0, nI_l, lN_i, lN_add, lN_mul, lN_sub, pk_lLT, pk_lLE, pk_lEQ, lg_lt, lg_ge, lg_eq0, lg_le, lg_gt, lg_ltn, lg_gen, lg_eq0n, lg_len, lg_gtn, Nat.zero_le, Nat.not_lt_zero, not_false_eq_true, not_true_eq_false, true_and, and_true]; done) | (simp (maxSteps := 4000000) (disch := omega) only [n_0, n_1, n_2, n_3, n_4, n_5, n_6, n_7, n_8, n_9, n_10, n_11, n_12, n_13, n_14, n_15, n_16, n_18, n_20, n_24, n_31, n_32, n_34, n_40, n_41, n_44, n_45, n_47, n_48, n_57, n_58, n_59, n_61, n_63, n_64, n_65, n_68, n_90, n_91, n_93, n_95, n_97, n_100, n_122, n_123, n_125, n_128, n_144, n_200, n_255, n_256, n_300, n_400, n_600, n_1536, n_3980, n_4000, n_4001, n_4300, n_65536, l_0, l_1, l_2, l_3, l_4, l_10, l_48, l_63, l_255, l_300, nI_ltI, nI_leI, nI_eq, nI_clamp, nI_add, pk_sub, pk_mul, nI_ne1, ne1_nI, nI_pge, nI_nlt0, nI_l, lN_i, lN_add, lN_mul, lN_sub, pk_lLT, pk_lLE, pk_lEQ, lg_lt, lg_ge, lg_eq0, lg_le, lg_gt, lg_ltn, lg_gen, lg_eq0n, lg_len, lg_gtn, Nat.zero_le, Nat.not_lt_zero, not_false_eq_true, not_true_eq_false, true_and, and_true]; omega) | omega)) (o_neg (show ¬ nI (T j) = nI 41 by (first | (simp (maxSteps := 4000000) (disch := omega) only [n_0, n_1, n_2, n_3, n_4, n_5, n_6, n_7, n_8, n_9, n_10, n_11, n_12, n_13, n_14, n_15, n_16, n_18, n_20, n_24, n_31, n_32, n_34, n_40, n_41, n_44, n_45, n_47, n_48, n_57, n_58, n_59, n_61, n_63, n_64, n_65, n_68, n_90, n_91, n_93, n_95, n_97, n_100, n_122, n_123, n_125, n_128, n_144, n_200, n_255, n_256, n_300, n_400, n_600, n_1536, n_3980, n_4000, n_4001, n_4300, n_65536, l_0, l_1, l_2, l_3, l_4, l_10, l_48, l_63, l_255, l_300, nI_ltI, nI_leI, nI_eq, nI_clamp, nI_add, pk_sub, pk_mul, nI_ne1, ne1_nI, nI_pge, nI_nlt0, nI_l, lN_i, lN_add, lN_mul, lN_sub, pk_lLT, pk_lLE, pk_lEQ, lg_lt, lg_ge, lg_eq0, lg_le, lg_gt, lg_ltn, lg_gen, lg_eq0n, lg_len, lg_gtn, Nat.zero_le, Nat.not_lt_zero, not_false_eq_true, not_true_eq_false, true_and, and_true]; done) | (simp (maxSteps := 4000000) (disch := omega) only [n_0, n_1, n_2, n_3, n_4, n_5, n_6, n_7, n_8, n_9, n_10, n_11, n_12, n_13, n_14, n_15, n_16, n_18, n_20, n_24, n_31, n_32, n_34, n_40, n_41, n_44, n_45, n_47, n_48, n_57, n_58, n_59, n_61, n_63, n_64, n_65, n_68, n_90, n_91, n_93, n_95, n_97, n_100, n_122, n_123, n_125, n_128, n_144, n_200, n_255, n_256, n_300, n_400, n_600, n_1536, n_3980, n_4000, n_4001, n_4300, n_65536, l_0, l_1, l_2, l_3, l_4, l_10, l_48, l_63, l_255, l_300, nI_ltI, nI_leI, nI_eq, nI_clamp, nI_add, pk_sub, pk_mul, nI_ne1, ne1_nI, nI_pge, nI_nlt0, nI_l, lN_i, lN_add, lN_mul, lN_sub, pk_lLT, pk_lLE, pk_lEQ, lg_lt, lg_ge, lg_eq0, lg_le, lg_gt, lg_ltn, lg_gen, lg_eq0n, lg_len, lg_gtn, Nat.zero_le, Nat.not_lt_zero, not_false_eq_true, not_true_eq_false, true_and, and_true]; omega) | omega)) (o_neg (show ¬ nI (T j) = nI 58 by (first | (simp (maxSteps := 4000000) (disch := omega) only [n_0, n_1, n_2, n_3, n_4, n_5, n_6, n_7, n_8, n_9, n_10, n_11, n_12, n_13, n_14, n_15, n_16, n_18, n_20, n_24, n_31, n_32, n_34, n_40, n_41, n_44, n_45, n_47, n_48, n_57, n_58, n_59, n_61, n_63, n_64, n_65, n_68, n_90, n_91, n_93, n_95, n_97, n_100, n_122, n_123, n_125, n_128, n_144, n_200, n_255, n_256, n_300, n_400, n_600, n_1536, n_3980, n_4000, n_4001, n_4300, n_65536, l_0, l_1, l_2, l_3, l_4, l_10, l_48, l_63, l_255, l_300, nI_ltI, nI_leI, nI_eq, nI_clamp, nI_add, pk_sub, pk_mul, nI_ne1, ne1_nI, nI_pge, nI_nlt0, nI_l, lN_i, lN_add, lN_mul, lN_sub, pk_lLT, pk_lLE, pk_lEQ, lg_lt, lg_ge, lg_eq0, lg_le, lg_gt, lg_ltn, lg_gen, lg_eq0n, lg_len, lg_gtn, Nat.zero_le, Nat.not_lt_zero, not_false_eq_true, not_true_eq_false, true_and, and_true]; done) | (simp (maxSteps := 4000000) (disch := omega) only [n_0, n_1, n_2, n_3, n_4, n_5, n_6, n_7, n_8, n_9, n_10, n_11, n_12, n_13, n_14, n_15, n_16, n_18, n_20, n_24, n_31, n_32, n_34, n_40, n_41, n_44, n_45, n_47, n_48, n_57, n_58, n_59, n_61, n_63, n_64, n_65, n_68, n_90, n_91, n_93, n_95, n_97, n_100, n_122, n_123, n_125, n_128, n_144, n_200, n_255, n_256, n_300, n_400, n_600, n_1536, n_3980, n_4000, n_4001, n_4300, n_65536, l_0, l_1, l_2, l_3, l_4, l_10, l_48, l_63, l_255, l_300, nI_ltI, nI_leI, nI_eq, nI_clamp, nI_add, pk_sub, pk_mul, nI_ne1, ne1_nI, nI_pge, nI_nlt0, nI_l, lN_i, lN_add, lN_mul, lN_sub, pk_lLT, pk_lLE, pk_lEQ, lg_lt, lg_ge, lg_eq0, lg_le, lg_gt, lg_ltn, lg_gen, lg_eq0n, lg_len, lg_gtn, Nat.zero_le, Nat.not_lt_zero, not_false_eq_true, not_true_eq_false, true_and, and_true]; omega) | omega)) (o_neg (show ¬ nI (T j) = nI 59 by (first | (simp (maxSteps := 4000000) (disch := omega) only [n_0, n_1, n_2, n_3, n_4, n_5, n_6, n_7, n_8, n_9, n_10, n_11, n_12, n_13, n_14, n_15, n_16, n_18, n_20, n_24, n_31, n_32, n_34, n_40, n_41, n_44, n_45, n_47, n_48, n_57, n_58, n_59, n_61, n_63, n_64, n_65, n_68, n_90, n_91, n_93, n_95, n_97, n_100, n_122, n_123, n_125, n_128, n_144, n_200, n_255, n_256, n_300, n_400, n_600, n_1536, n_3980, n_4000, n_4001, n_4300, n_65536, l_0, l_1, l_2, l_3, l_4, l_10, l_48, l_63, l_255, l_300, nI_ltI, nI_leI, nI_eq, nI_clamp, nI_add, pk_sub, pk_mul, nI_ne1, ne1_nI, nI_pge, nI_nlt0, nI_l, lN_i, lN_add, lN_mul, lN_sub, pk_lLT, pk_lLE, pk_lEQ, lg_lt, lg_ge, lg_eq0, lg_le, lg_gt, lg_ltn, lg_gen, lg_eq0n, lg_len, lg_gtn, Nat.zero_le, Nat.not_lt_zero, not_false_eq_true, not_true_eq_false, true_and, and_true]; done) | (simp (maxSteps := 4000000) (disch := omega) only [n_0, n_1, n_2, n_3, n_4, n_5, n_6, n_7, n_8, n_9, n_10, n_11, n_12, n_13, n_14, n_15, n_16, n_18, n_20, n_24, n_31, n_32, n_34, n_40, n_41, n_44, n_45, n_47, n_48, n_57, n_58, n_59, n_61, n_63, n_64, n_65, n_68, n_90, n_91, n_93, n_95, n_97, n_100, n_122, n_123, n_125, n_128, n_144, n_200, n_255, n_256, n_300, n_400, n_600, n_1536, n_3980, n_4000, n_4001, n_4300, n_65536, l_0, l_1, l_2, l_3, l_4, l_10, l_48, l_63, l_255, l_300, nI_ltI, nI_leI, nI_eq, nI_clamp, nI_add, pk_sub, pk_mul, nI_ne1, ne1_nI, nI_pge, nI_nlt0, nI_l, lN_i, lN_add, lN_mul, lN_sub, pk_lLT, pk_lLE, pk_lEQ, lg_lt, lg_ge, lg_eq0, lg_le, lg_gt, lg_ltn, lg_gen, lg_eq0n, lg_len, lg_gtn, Nat.zero_le, Nat.not_lt_zero, not_false_eq_true, not_true_eq_false, true_and, and_true]; omega) | omega)) (o_neg (show ¬ nI (T j) = nI 61 by (first | (simp (maxSteps := 4000000) (disch := omega) only [n_0, n_1, n_2, n_3, n_4, n_5, n_6, n_7, n_8, n_9, n_10, n_11, n_12, n_13, n_14, n_15, n_16, n_18, n_20, n_24, n_31, n_32, n_34, n_40, n_41, n_44, n_45, n_47, n_48, n_57, n_58, n_59, n_61, n_63, n_64, n_65, n_68, n_90, n_91, n_93, n_95, n_97, n_100, n_122, n_123, n_125, n_128, n_144, n_200, n_255, n_256, n_300, n_400, n_600, n_1536, n_3980, n_4000, n_4001, n_4300, n_65536, l_0, l_1, l_2, l_3, l_4, l_10, l_48, l_63, l_255, l_300, nI_ltI, nI_leI, nI_eq, nI_clamp, nI_add, pk_sub, pk_mul, nI_ne1, ne1_nI, nI_pge, nI_nlt0, nI_l, lN_i, lN_add, lN_mul, lN_sub, pk_lLT, pk_lLE, pk_lEQ, lg_lt, lg_ge, lg_eq0, lg_le, lg_gt, lg_ltn, lg_gen, lg_eq0n, lg_len, lg_gtn, Nat.zero_le, Nat.not_lt_zero, not_false_eq_true, not_true_eq_false, true_and, and_true]; done) | (simp (maxSteps := 4000000) (disch := omega) only [n_0, n_1, n_2, n_3, n_4, n_5, n_6, n_7, n_8, n_9, n_10, n_11, n_12, n_13, n_14, n_15, n_16, n_18, n_20, n_24, n_31, n_32, n_34, n_40, n_41, n_44, n_45, n_47, n_48, n_57, n_58, n_59, n_61, n_63, n_64, n_65, n_68, n_90, n_91, n_93, n_95, n_97, n_100, n_122, n_123, n_125, n_128, n_144, n_200, n_255, n_256, n_300, n_400, n_600, n_1536, n_3980, n_4000, n_4001, n_4300, n_65536, l_0, l_1, l_2, l_3, l_4, l_10, l_48, l_63, l_255, l_300, nI_ltI, nI_leI, nI_eq, nI_clamp, nI_add, pk_sub, pk_mul, nI_ne1, ne1_nI, nI_pge, nI_nlt0, nI_l, lN_i, lN_add, lN_mul, lN_sub, pk_lLT, pk_lLE, pk_lEQ, lg_lt, lg_ge, lg_eq0, lg_le, lg_gt, lg_ltn, lg_gen, lg_eq0n, lg_len, lg_gtn, Nat.zero_le, Nat.not_lt_zero, not_false_eq_true, not_true_eq_false, true_and, and_true]; omega) | omega)) (o_pos (show ¬ nI (T j) = nI 44 by (first | (simp (maxSteps := 4000000) (disch := omega) only [n_0, n_1, n_2, n_3, n_4, n_5, n_6, n_7, n_8, n_9, n_10, n_11, n_12, n_13, n_14, n_15, n_16, n_18, n_20, n_24, n_31, n_32, n_34, n_40, n_41, n_44, n_45, n_47, n_48, n_57, n_58, n_59, n_61, n_63, n_64, n_65, n_68, n_90, n_91, n_93, n_95, n_97, n_100, n_122, n_123, n_125, n_128, n_144, n_200, n_255, n_256, n_300, n_400, n_600, n_1536, n_3980, n_4000, n_4001, n_4300, n_65536, l_0, l_1, l_2, l_3, l_4, l_10, l_48, l_63, l_255, l_300, nI_ltI, nI_leI, nI_eq, nI_clamp, nI_add, pk_sub, pk_mul, nI_ne1, ne1_nI, nI_pge, nI_nlt0, nI_l, lN_i, lN_add, lN_mul, lN_sub, pk_lLT, pk_lLE, pk_lEQ, lg_lt, lg_ge, lg_eq0, lg_le, lg_gt, lg_ltn, lg_gen, lg_eq0n, lg_len, lg_gtn, Nat.zero_le, Nat.not_lt_zero, not_false_eq_true, not_true_eq_false, true_and, and_true]; done) | (simp (maxSteps := 4000000) (disch := omega) only [n_0, n_1, n_2, n_3, n_4, n_5, n_6, n_7, n_8, n_9, n_10, n_11, n_12, n_13, n_14, n_15, n_16, n_18, n_20, n_24, n_31, n_32, n_34, n_40, n_41, n_44, n_45, n_47, n_48, n_57, n_58, n_59, n_61, n_63, n_64, n_65, n_68, n_90, n_91, n_93, n_95, n_97, n_100, n_122, n_123, n_125, n_128, n_144, n_200, n_255, n_256, n_300, n_400, n_600, n_1536, n_3980, n_4000, n_4001, n_4300, n_65536, l_0, l_1, l_2, l_3, l_4, l_10, l_48, l_63, l_255, l_300, nI_ltI, nI_leI, nI_eq, nI_clamp, nI_add, pk_sub, pk_mul, nI_ne1, ne1_nI, nI_pge, nI_nlt0, nI_l, lN_i, lN_add, lN_mul, lN_sub, pk_lLT, pk_lLE, pk_lEQ, lg_lt, lg_ge, lg_eq0, lg_le, lg_gt, lg_ltn, lg_gen, lg_eq0n, lg_len, lg_gtn, Nat.zero_le, Nat.not_lt_zero, not_false_eq_true, not_true_eq_false, true_and, and_true]; omega) | omega)) (o_pos rfl (o_bind lx rfl)))))))))))
  have fin : ∀ (kd mk : Int32) (R : Option (Int32 × XH)), R = f_x_keep kd (nI j) 0 0 (hsi g 7 5 (nI (j + 1))) → (sgB (T j) = true ∧ mk = 4) ∨ (¬ sgB (T j) = true ∧ mk = 1) → ((kd = 1 ∧ mk = 1) ∨ (¬ (kd = 0 ∨ kd = 1) ∧ mk = 4 ∧ kd = nI (T j))) → STEP T n g h c j R (fun K => b_m_cut_106 K (nI j) h) := by
    intro kd mk R ck hk' hkd
    obtain ⟨u, x1, x2, x3, x4, ⟨x5, x6, x7, x8⟩, x9⟩ := e_x_keep (g := hsi g 7 5 (nI (j + 1))) (c := c) (x := kd) (y := nI j) (p := 0) (q := 0) (by rw [hi_nk (by decide)]; exact e4) c4
    obtain ⟨p, z1, z2, z3, ⟨z4, z5, z6, z7⟩, z8⟩ := e_m_lexeme (h := h) (c := c) (x0 := mk) (x1 := nI j) (x2 := nI (j + 1)) (x3 := nI (T j)) e12 c4
    have o := mo mk hk' p z1
    refine ⟨kd, u, p, j + 1, ck.trans x1, s75_frj.trans x2, x3, by rw [x4, hi_at], fun i hi' => ?_, fun K => ?_, z2, z3, z8, ⟨j, j + 1, by omega, by omega, x6, z5, z6, ?_⟩, x5, Or.inr (Or.inr ⟨by omega, by omega⟩)⟩
    · obtain ⟨a1, a2, a3, a4⟩ := x9 i hi'
      exact ⟨by rw [a1, hi_hsi_ne (by decide)], by rw [a2, hi_hsi_ne (by decide)], by rw [a3]; rfl, by rw [a4]; rfl⟩
    · rcases hkd with ⟨q1, q2⟩ | ⟨q1, q2, -⟩
      · rw [if_pos (Or.inr q1)]
        exact m106 M jn o z3 c4 z4 (Or.inl ⟨q2, rfl⟩)
      · rw [if_neg q1]
        exact m106 M jn o z3 c4 z4 (Or.inr ⟨by rw [q2]; decide, rfl⟩)
    · rcases hkd with ⟨q1, q2⟩ | ⟨q1, q2, q3⟩
      · exact Or.inr (Or.inl ⟨by rw [x5, q1], by rw [z4, q2]⟩)
      · refine Or.inr (Or.inr (Or.inr (Or.inr (Or.inr (Or.inr ⟨T j, lT, ?_, by rw [x5, q3], by rw [z4, q2], z7⟩)))))
        rcases hk' with ⟨k1, -⟩ | ⟨-, k2⟩
        · exact k1
        · rw [q2] at k2
          exact absurd k2 (by decide)
  by_cases cs : sgB (T j) = true
  · have nx : ¬ xix 10000027 (UInt32.toInt32 (Int32.toUInt32 (nI (T j)) % 65536)) < 0 := by
      rw [cs] at sx
      exact of_decide_eq_false sx
    have l40 : 40 ≤ T j := by have := sg_cases cs; omega
    refine fin (nI (T j)) 4 _ (by rw [if_neg nx]; exact kp _) (Or.inl ⟨cs, rfl⟩) (Or.inr ⟨fun z => z.elim (show ¬ nI (T j) = nI 0 by (first | (simp (maxSteps := 4000000) (disch := omega) only [n_0, n_1, n_2, n_3, n_4, n_5, n_6, n_7, n_8, n_9, n_10, n_11, n_12, n_13, n_14, n_15, n_16, n_18, n_20, n_24, n_31, n_32, n_34, n_40, n_41, n_44, n_45, n_47, n_48, n_57, n_58, n_59, n_61, n_63, n_64, n_65, n_68, n_90, n_91, n_93, n_95, n_97, n_100, n_122, n_123, n_125, n_128, n_144, n_200, n_255, n_256, n_300, n_400, n_600, n_1536, n_3980, n_4000, n_4001, n_4300, n_65536, l_0, l_1, l_2, l_3, l_4, l_10, l_48, l_63, l_255, l_300, nI_ltI, nI_leI, nI_eq, nI_clamp, nI_add, pk_sub, pk_mul, nI_ne1, ne1_nI, nI_pge, nI_nlt0, nI_l, lN_i, lN_add, lN_mul, lN_sub, pk_lLT, pk_lLE, pk_lEQ, lg_lt, lg_ge, lg_eq0, lg_le, lg_gt, lg_ltn, lg_gen, lg_eq0n, lg_len, lg_gtn, Nat.zero_le, Nat.not_lt_zero, not_false_eq_true, not_true_eq_false, true_and, and_true]; done) | (simp (maxSteps := 4000000) (disch := omega) only [n_0, n_1, n_2, n_3, n_4, n_5, n_6, n_7, n_8, n_9, n_10, n_11, n_12, n_13, n_14, n_15, n_16, n_18, n_20, n_24, n_31, n_32, n_34, n_40, n_41, n_44, n_45, n_47, n_48, n_57, n_58, n_59, n_61, n_63, n_64, n_65, n_68, n_90, n_91, n_93, n_95, n_97, n_100, n_122, n_123, n_125, n_128, n_144, n_200, n_255, n_256, n_300, n_400, n_600, n_1536, n_3980, n_4000, n_4001, n_4300, n_65536, l_0, l_1, l_2, l_3, l_4, l_10, l_48, l_63, l_255, l_300, nI_ltI, nI_leI, nI_eq, nI_clamp, nI_add, pk_sub, pk_mul, nI_ne1, ne1_nI, nI_pge, nI_nlt0, nI_l, lN_i, lN_add, lN_mul, lN_sub, pk_lLT, pk_lLE, pk_lEQ, lg_lt, lg_ge, lg_eq0, lg_le, lg_gt, lg_ltn, lg_gen, lg_eq0n, lg_len, lg_gtn, Nat.zero_le, Nat.not_lt_zero, not_false_eq_true, not_true_eq_false, true_and, and_true]; omega) | omega)) (show ¬ nI (T j) = nI 1 by (first | (simp (maxSteps := 4000000) (disch := omega) only [n_0, n_1, n_2, n_3, n_4, n_5, n_6, n_7, n_8, n_9, n_10, n_11, n_12, n_13, n_14, n_15, n_16, n_18, n_20, n_24, n_31, n_32, n_34, n_40, n_41, n_44, n_45, n_47, n_48, n_57, n_58, n_59, n_61, n_63, n_64, n_65, n_68, n_90, n_91, n_93, n_95, n_97, n_100, n_122, n_123, n_125, n_128, n_144, n_200, n_255, n_256, n_300, n_400, n_600, n_1536, n_3980, n_4000, n_4001, n_4300, n_65536, l_0, l_1, l_2, l_3, l_4, l_10, l_48, l_63, l_255, l_300, nI_ltI, nI_leI, nI_eq, nI_clamp, nI_add, pk_sub, pk_mul, nI_ne1, ne1_nI, nI_pge, nI_nlt0, nI_l, lN_i, lN_add, lN_mul, lN_sub, pk_lLT, pk_lLE, pk_lEQ, lg_lt, lg_ge, lg_eq0, lg_le, lg_gt, lg_ltn, lg_gen, lg_eq0n, lg_len, lg_gtn, Nat.zero_le, Nat.not_lt_zero, not_false_eq_true, not_true_eq_false, true_and, and_true]; done) | (simp (maxSteps := 4000000) (disch := omega) only [n_0, n_1, n_2, n_3, n_4, n_5, n_6, n_7, n_8, n_9, n_10, n_11, n_12, n_13, n_14, n_15, n_16, n_18, n_20, n_24, n_31, n_32, n_34, n_40, n_41, n_44, n_45, n_47, n_48, n_57, n_58, n_59, n_61, n_63, n_64, n_65, n_68, n_90, n_91, n_93, n_95, n_97, n_100, n_122, n_123, n_125, n_128, n_144, n_200, n_255, n_256, n_300, n_400, n_600, n_1536, n_3980, n_4000, n_4001, n_4300, n_65536, l_0, l_1, l_2, l_3, l_4, l_10, l_48, l_63, l_255, l_300, nI_ltI, nI_leI, nI_eq, nI_clamp, nI_add, pk_sub, pk_mul, nI_ne1, ne1_nI, nI_pge, nI_nlt0, nI_l, lN_i, lN_add, lN_mul, lN_sub, pk_lLT, pk_lLE, pk_lEQ, lg_lt, lg_ge, lg_eq0, lg_le, lg_gt, lg_ltn, lg_gen, lg_eq0n, lg_len, lg_gtn, Nat.zero_le, Nat.not_lt_zero, not_false_eq_true, not_true_eq_false, true_and, and_true]; omega) | omega)), rfl, rfl⟩)
  · have nx : xix 10000027 (UInt32.toInt32 (Int32.toUInt32 (nI (T j)) % 65536)) < 0 := by
      rw [Bool.not_eq_true] at cs
      rw [cs] at sx
      exact of_decide_eq_true sx
    exact fin 1 1 _ (by rw [if_pos nx]; exact kp _) (Or.inr ⟨cs, rfl⟩) (Or.inl ⟨rfl, rfl⟩)
/-- one lexeme, with the blanks ahead of it -/
theorem lex_one {k : Nat} (C : CTx g T n) (M : MTx h T n) (e4 : hi g 7 4 = nI c) (c4 : c ≤ 4000) (e5 : hi g 7 5 = nI k) (kn : k ≤ n) (e12 : hi h 1262 12 = nI c) : STEP T n g h c (skB T (n - k) false k) (f_x_takeOne 1 g) (fun K => b_m_cut_106 K (nI (skB T (n - k) false k)) h) := by
  have n4 := C.2.2.1
  obtain ⟨g1, y1, F1, y2⟩ := e_x_skip (n := n) (T := T) (n - k) k 100000 false g (by omega) (by omega) C e5
  have le := skB_le (T := T) (n - k) false k
  obtain ⟨j, hj'⟩ : ∃ j, j = skB T (n - k) false k := ⟨_, rfl⟩
  rw [← hj'] at y2 le ⊢
  have FJ := e75_lP F1
  have C1 := C.frj FJ
  have e4' : hi g1 7 4 = nI c := by rw [F1.at (by simp [e75])]; exact e4
  have same : ∀ i, hi g1 8 i = hi g 8 i ∧ hi g1 9 i = hi g 9 i ∧ hj g1 10 i = hj g 10 i ∧ hj g1 11 i = hj g 11 i := fun i => ⟨F1.at (by simp [e75]), F1.at (by simp [e75]), by rw [F1.hj (by decide)], by rw [F1.hj (by decide)]⟩
  have lift : ∀ R, STEP T n g1 h c j R (fun K => b_m_cut_106 K (nI j) h) → f_x_takeOne 1 g = R → STEP T n g h c j (f_x_takeOne 1 g) (fun K => b_m_cut_106 K (nI j) h) := by
    intro R S e
    obtain ⟨kd, u, p, k', s1, s2, s3, s4, s5, s6, s7, s8, s9, s10, s11, s12⟩ := S
    refine ⟨kd, u, p, k', e.trans s1, FJ.trans s2, s3, s4, fun i hi' => ?_, s6, s7, s8, s9, s10, s11, ?_⟩
    · obtain ⟨a1, a2, a3, a4⟩ := s5 i hi'
      obtain ⟨b1, b2, b3, b4⟩ := same i
      exact ⟨a1.trans b1, a2.trans b2, a3.trans b3, a4.trans b4⟩
    · rcases s12 with q | q | ⟨q1, q2⟩
      · exact Or.inl q
      · exact Or.inr (Or.inl q)
      · exact Or.inr (Or.inr ⟨by omega, q2⟩)
  have on := e_b_octetOrNone (x := nI j) C1.1.b1 C1.2.1 n4
  by_cases jn : j < n
  · have lT := M.2.2.1 j
    have on2 : f_b_octetOrNone 1 (nI j) g1 = some (nI (T j), g1) := by
      rw [on, if_neg (fun z => z.elim (nI_pos (show j < 2 ^ 31 by omega)) (fun z => by rw [nI_leI (by omega) (by omega)] at z; omega)), nI_clamp (show j < 2 ^ 31 by omega), C1.2.2.2]
    have st : ∀ X : Option (Int32 × XH), (Option.bind (f_x_isLetter (nI (T j)) g1) fun r15 => (if r15.1 = 0 then (Option.bind (f_x_isDigit (nI (T j)) r15.2) fun r19 => (if ¬ r19.1 = 0 then (b_x_takeOne_57 1 r19.2) else (if ¬ nI (T j) = 45 then (if (xix 10000027 (UInt32.toInt32 (Int32.toUInt32 (nI (T j)) % 65536))) < 0 then (b_x_takeOne_89 1 (hsi r19.2 7 5 ((hi r19.2 7 5) + 1))) else (b_x_takeOne_89 (nI (T j)) (hsi r19.2 7 5 ((hi r19.2 7 5) + 1)))) else (b_x_takeOne_57 1 r19.2)))) else (Option.bind (f_x_takeWord 1 r15.2) fun r25 => (some (r25.1, r25.2))))) = X → f_x_takeOne 1 g = X := by
      intro X q
      unfold f_x_takeOne
      refine o_bind y1 (o_pos ⟨C1.1.b1.1, C1.1.b1.2.1⟩ ?_)
      dsimp only
      rw [y2]
      exact o_bind on2 (o_pos (nI_n1 (by omega)) q)
    have et : ∀ R : Option (Int32 × XH), (Option.bind R fun r25 => (some (r25.1, r25.2))) = R := fun R => by
      cases R with
      | none => rfl
      | some v => rfl
    rcases e_x_isLetter (h := g1) lT with ⟨q1, q2⟩ | ⟨q1, q2⟩
    · exact lift _ (tk_word C1 M e4' c4 y2 jn e12 q1) (st _ (o_bind q2 (o_neg one0 (et _))))
    · rcases e_x_isDigit (h := g1) lT with ⟨p1, p2⟩ | ⟨p1, p2⟩
      · refine lift _ (tk_whole C1 M e4' c4 y2 jn e12 q1 (Or.inl p1)) (st _ (o_bind q2 (o_pos rfl (o_bind p2 (o_pos one0 ?_)))))
        unfold b_x_takeOne_57
        exact et _
      · by_cases c45 : T j = 45
        · refine lift _ (tk_whole C1 M e4' c4 y2 jn e12 q1 (Or.inr c45)) (st _ (o_bind q2 (o_pos rfl (o_bind p2 (o_neg (not_not_intro rfl) (o_neg (by rw [c45]; exact not_not_intro rfl) ?_))))))
          unfold b_x_takeOne_57
          exact et _
        · refine lift _ (tk_sign C1 M e4' c4 y2 jn e12 q1 p1 c45) (st _ (o_bind q2 (o_pos rfl (o_bind p2 (o_neg (not_not_intro rfl) (o_pos (show ¬ nI (T j) = nI 45 by (first | (simp (maxSteps := 4000000) (disch := omega) only [n_0, n_1, n_2, n_3, n_4, n_5, n_6, n_7, n_8, n_9, n_10, n_11, n_12, n_13, n_14, n_15, n_16, n_18, n_20, n_24, n_31, n_32, n_34, n_40, n_41, n_44, n_45, n_47, n_48, n_57, n_58, n_59, n_61, n_63, n_64, n_65, n_68, n_90, n_91, n_93, n_95, n_97, n_100, n_122, n_123, n_125, n_128, n_144, n_200, n_255, n_256, n_300, n_400, n_600, n_1536, n_3980, n_4000, n_4001, n_4300, n_65536, l_0, l_1, l_2, l_3, l_4, l_10, l_48, l_63, l_255, l_300, nI_ltI, nI_leI, nI_eq, nI_clamp, nI_add, pk_sub, pk_mul, nI_ne1, ne1_nI, nI_pge, nI_nlt0, nI_l, lN_i, lN_add, lN_mul, lN_sub, pk_lLT, pk_lLE, pk_lEQ, lg_lt, lg_ge, lg_eq0, lg_le, lg_gt, lg_ltn, lg_gen, lg_eq0n, lg_len, lg_gtn, Nat.zero_le, Nat.not_lt_zero, not_false_eq_true, not_true_eq_false, true_and, and_true]; done) | (simp (maxSteps := 4000000) (disch := omega) only [n_0, n_1, n_2, n_3, n_4, n_5, n_6, n_7, n_8, n_9, n_10, n_11, n_12, n_13, n_14, n_15, n_16, n_18, n_20, n_24, n_31, n_32, n_34, n_40, n_41, n_44, n_45, n_47, n_48, n_57, n_58, n_59, n_61, n_63, n_64, n_65, n_68, n_90, n_91, n_93, n_95, n_97, n_100, n_122, n_123, n_125, n_128, n_144, n_200, n_255, n_256, n_300, n_400, n_600, n_1536, n_3980, n_4000, n_4001, n_4300, n_65536, l_0, l_1, l_2, l_3, l_4, l_10, l_48, l_63, l_255, l_300, nI_ltI, nI_leI, nI_eq, nI_clamp, nI_add, pk_sub, pk_mul, nI_ne1, ne1_nI, nI_pge, nI_nlt0, nI_l, lN_i, lN_add, lN_mul, lN_sub, pk_lLT, pk_lLE, pk_lEQ, lg_lt, lg_ge, lg_eq0, lg_le, lg_gt, lg_ltn, lg_gen, lg_eq0n, lg_len, lg_gtn, Nat.zero_le, Nat.not_lt_zero, not_false_eq_true, not_true_eq_false, true_and, and_true]; omega) | omega)) ?_))))))
          dsimp only
          rw [y2]
  · -- the end
    have ej : j = n := by omega
    have on2 : f_b_octetOrNone 1 (nI j) g1 = some (-1, g1) := by
      rw [on, if_pos (Or.inr (by rw [nI_leI (by omega) (by omega)]; omega))]
    obtain ⟨u, x1, x2, x3, x4, ⟨x5, x6, x7, x8⟩, x9⟩ := e_x_keep (g := g1) (c := c) (x := 0) (y := nI j) (p := 0) (q := 0) e4' c4
    obtain ⟨p, z1, z2, z3, ⟨z4, z5, z6, z7⟩, z8⟩ := e_m_lexeme (h := h) (c := c) (x0 := 0) (x1 := nI n) (x2 := nI n) (x3 := 0) e12 c4
    refine lift _ ⟨0, u, p, j, x1, x2, x3, by rw [x4]; exact y2, x9, fun K => ?_, z2, z3, z8, ⟨n, n, Nat.le_refl n, Nat.le_refl n, by rw [x6, ej], z5, z6, Or.inl ⟨x5, z4⟩⟩, x5, Or.inl rfl⟩ ?_
    · rw [if_pos (Or.inl rfl)]
      unfold b_m_cut_106
      rw [M.1]
      exact o_neg (by (first | (simp (maxSteps := 4000000) (disch := omega) only [n_0, n_1, n_2, n_3, n_4, n_5, n_6, n_7, n_8, n_9, n_10, n_11, n_12, n_13, n_14, n_15, n_16, n_18, n_20, n_24, n_31, n_32, n_34, n_40, n_41, n_44, n_45, n_47, n_48, n_57, n_58, n_59, n_61, n_63, n_64, n_65, n_68, n_90, n_91, n_93, n_95, n_97, n_100, n_122, n_123, n_125, n_128, n_144, n_200, n_255, n_256, n_300, n_400, n_600, n_1536, n_3980, n_4000, n_4001, n_4300, n_65536, l_0, l_1, l_2, l_3, l_4, l_10, l_48, l_63, l_255, l_300, nI_ltI, nI_leI, nI_eq, nI_clamp, nI_add, pk_sub, pk_mul, nI_ne1, ne1_nI, nI_pge, nI_nlt0, nI_l, lN_i, lN_add, lN_mul, lN_sub, pk_lLT, pk_lLE, pk_lEQ, lg_lt, lg_ge, lg_eq0, lg_le, lg_gt, lg_ltn, lg_gen, lg_eq0n, lg_len, lg_gtn, Nat.zero_le, Nat.not_lt_zero, not_false_eq_true, not_true_eq_false, true_and, and_true]; done) | (simp (maxSteps := 4000000) (disch := omega) only [n_0, n_1, n_2, n_3, n_4, n_5, n_6, n_7, n_8, n_9, n_10, n_11, n_12, n_13, n_14, n_15, n_16, n_18, n_20, n_24, n_31, n_32, n_34, n_40, n_41, n_44, n_45, n_47, n_48, n_57, n_58, n_59, n_61, n_63, n_64, n_65, n_68, n_90, n_91, n_93, n_95, n_97, n_100, n_122, n_123, n_125, n_128, n_144, n_200, n_255, n_256, n_300, n_400, n_600, n_1536, n_3980, n_4000, n_4001, n_4300, n_65536, l_0, l_1, l_2, l_3, l_4, l_10, l_48, l_63, l_255, l_300, nI_ltI, nI_leI, nI_eq, nI_clamp, nI_add, pk_sub, pk_mul, nI_ne1, ne1_nI, nI_pge, nI_nlt0, nI_l, lN_i, lN_add, lN_mul, lN_sub, pk_lLT, pk_lLE, pk_lEQ, lg_lt, lg_ge, lg_eq0, lg_le, lg_gt, lg_ltn, lg_gen, lg_eq0n, lg_len, lg_gtn, Nat.zero_le, Nat.not_lt_zero, not_false_eq_true, not_true_eq_false, true_and, and_true]; omega) | omega)) (o_bind z1 rfl)
    · unfold f_x_takeOne
      refine o_bind y1 (o_pos ⟨C1.1.b1.1, C1.1.b1.2.1⟩ ?_)
      dsimp only
      rw [y2]
      refine o_bind on2 (o_neg (not_not_intro rfl) ?_)
      dsimp only
      rw [y2]
      exact o_bind x1 (by rw [x1])
theorem TK.cg {u p : XH} {i : Nat} (K : TK T n g h i) (a1 : hi u 8 i = hi g 8 i ∧ hi u 9 i = hi g 9 i ∧ hj u 10 i = hj g 10 i ∧ hj u 11 i = hj g 11 i) (b1 : hi p 1266 i = hi h 1266 i ∧ hi p 1267 i = hi h 1267 i ∧ hi p 1268 i = hi h 1268 i ∧ hi p 1269 i = hi h 1269 i) : TK T n u p i := by
  unfold TK
  rw [a1.1, a1.2.1, a1.2.2.1, a1.2.2.2, b1.1, b1.2.1, b1.2.2.1, b1.2.2.2]
  exact K
/-- the lexemes of a text, on both sides -/
def TOKS (T : Nat → Nat) (n : Nat) (g h : XH) (c : Nat) : Prop := hi g 7 4 = nI c ∧ hi h 1262 12 = nI c ∧ 1 ≤ c ∧ c ≤ 4001 ∧ (∀ i, i < c → TK T n g h i) ∧ (∀ i, i + 1 < c → ¬ (hi g 8 i = 0 ∨ hi g 8 i = 1)) ∧ (hi g 8 (c - 1) = 0 ∨ hi g 8 (c - 1) = 1)
theorem lex_all : ∀ (d k c F fuel : Nat) (g h : XH), n - k ≤ d → k ≤ n → c ≤ k → n - k + 1 < F → n - k + 1 < fuel → CTx g T n → MTx h T n → hi g 7 4 = nI c → hi g 7 5 = nI k → hi h 1262 12 = nI c → (∀ i, i < c → TK T n g h i ∧ ¬ (hi g 8 i = 0 ∨ hi g 8 i = 1)) → ∃ u p c', b_x_takeAll_14 fuel 1 0 (nI c) g = some ((), u) ∧ b_m_cut_9 F (nI k) 1 h = some ((), p) ∧ FRJ lP lJ g u ∧ FRM mLx h p ∧ TOKS T n u p c' := by
  intro d
  induction d with
  | zero =>
    intro k c F fuel g h hd kn ck hF hf C M e4 e5 e12 tk
    have n4 := C.2.2.1
    obtain ⟨f, rfl, -⟩ := fuel_pos hf
    obtain ⟨F1, rfl, -⟩ := fuel_pos hF
    obtain ⟨kd, u, p, k', s1, s2, s3, s4, s5, s6, s7, s8, s9, s10, s11, s12⟩ := lex_one C M e4 (by omega) e5 kn e12
    obtain ⟨F2, f1, f2⟩ := e_m_skip M (n - k) k F1 100000 (by omega) (by omega) (by omega)
    have le := skB_le (T := T) (n - k) false k
    have kd01 : kd = 0 ∨ kd = 1 := by
      rcases s12 with q | q | ⟨q1, q2⟩
      · exact Or.inl q
      · exact Or.inr q
      · omega
    obtain ⟨F3, rfl, -⟩ := fuel_pos (show 0 < F2 by omega)
    refine ⟨u, p, c + 1, ?_, ?_, s2, s7, s3, s8, by omega, by omega, fun i hi' => ?_, fun i hi' => ?_, ?_⟩
    · show s_x_takeAll_14 (b_x_takeAll_14 f) _ _ _ _ = _
      obtain ⟨f', rfl, -⟩ := fuel_pos (show 0 < f by omega)
      have nx : b_x_takeAll_14 (f' + 1) 1 1 (nI c + 1) u = some ((), u) := by
        show s_x_takeAll_14 (b_x_takeAll_14 f') _ _ _ _ = _
        unfold s_x_takeAll_14
        exact o_pos one0 rfl
      unfold s_x_takeAll_14 b_x_takeAll_43 b_x_takeAll_48
      refine o_neg (not_not_intro rfl) (o_neg (by (first | (simp (maxSteps := 4000000) (disch := omega) only [n_0, n_1, n_2, n_3, n_4, n_5, n_6, n_7, n_8, n_9, n_10, n_11, n_12, n_13, n_14, n_15, n_16, n_18, n_20, n_24, n_31, n_32, n_34, n_40, n_41, n_44, n_45, n_47, n_48, n_57, n_58, n_59, n_61, n_63, n_64, n_65, n_68, n_90, n_91, n_93, n_95, n_97, n_100, n_122, n_123, n_125, n_128, n_144, n_200, n_255, n_256, n_300, n_400, n_600, n_1536, n_3980, n_4000, n_4001, n_4300, n_65536, l_0, l_1, l_2, l_3, l_4, l_10, l_48, l_63, l_255, l_300, nI_ltI, nI_leI, nI_eq, nI_clamp, nI_add, pk_sub, pk_mul, nI_ne1, ne1_nI, nI_pge, nI_nlt0, nI_l, lN_i, lN_add, lN_mul, lN_sub, pk_lLT, pk_lLE, pk_lEQ, lg_lt, lg_ge, lg_eq0, lg_le, lg_gt, lg_ltn, lg_gen, lg_eq0n, lg_len, lg_gtn, Nat.zero_le, Nat.not_lt_zero, not_false_eq_true, not_true_eq_false, true_and, and_true]; done) | (simp (maxSteps := 4000000) (disch := omega) only [n_0, n_1, n_2, n_3, n_4, n_5, n_6, n_7, n_8, n_9, n_10, n_11, n_12, n_13, n_14, n_15, n_16, n_18, n_20, n_24, n_31, n_32, n_34, n_40, n_41, n_44, n_45, n_47, n_48, n_57, n_58, n_59, n_61, n_63, n_64, n_65, n_68, n_90, n_91, n_93, n_95, n_97, n_100, n_122, n_123, n_125, n_128, n_144, n_200, n_255, n_256, n_300, n_400, n_600, n_1536, n_3980, n_4000, n_4001, n_4300, n_65536, l_0, l_1, l_2, l_3, l_4, l_10, l_48, l_63, l_255, l_300, nI_ltI, nI_leI, nI_eq, nI_clamp, nI_add, pk_sub, pk_mul, nI_ne1, ne1_nI, nI_pge, nI_nlt0, nI_l, lN_i, lN_add, lN_mul, lN_sub, pk_lLT, pk_lLE, pk_lEQ, lg_lt, lg_ge, lg_eq0, lg_le, lg_gt, lg_ltn, lg_gen, lg_eq0n, lg_len, lg_gtn, Nat.zero_le, Nat.not_lt_zero, not_false_eq_true, not_true_eq_false, true_and, and_true]; omega) | omega)) (o_bind s1 ?_))
      rcases kd01 with q | q <;> subst q
      · exact o_pos rfl nx
      · exact o_neg one0 (o_neg (not_not_intro rfl) nx)
    · show s_m_cut_9 (b_m_cut_9 F1) _ _ _ = _
      unfold s_m_cut_9
      refine o_neg one0 ?_
      rw [f2]
      refine (s6 _).trans ?_
      rw [if_pos kd01]
      show s_m_cut_9 (b_m_cut_9 F3) _ _ _ = _
      unfold s_m_cut_9
      exact o_pos rfl rfl
    · by_cases ci : i = c
      · rw [ci]; exact s10
      · exact (tk i (by omega)).1.cg (s5 i ci) (s9 i ci)
    · rw [(s5 i (by omega)).1]
      exact (tk i (by omega)).2
    · rw [Nat.add_sub_cancel, s11]
      exact kd01
  | succ d ih =>
    intro k c F fuel g h hd kn ck hF hf C M e4 e5 e12 tk
    have n4 := C.2.2.1
    obtain ⟨f, rfl, -⟩ := fuel_pos hf
    obtain ⟨F1, rfl, -⟩ := fuel_pos hF
    obtain ⟨kd, u, p, k', s1, s2, s3, s4, s5, s6, s7, s8, s9, s10, s11, s12⟩ := lex_one C M e4 (by omega) e5 kn e12
    obtain ⟨F2, f1, f2⟩ := e_m_skip M (n - k) k F1 100000 (by omega) (by omega) (by omega)
    have le := skB_le (T := T) (n - k) false k
    by_cases kd01 : kd = 0 ∨ kd = 1
    · obtain ⟨F3, rfl, -⟩ := fuel_pos (show 0 < F2 by omega)
      refine ⟨u, p, c + 1, ?_, ?_, s2, s7, s3, s8, by omega, by omega, fun i hi' => ?_, fun i hi' => ?_, ?_⟩
      · show s_x_takeAll_14 (b_x_takeAll_14 f) _ _ _ _ = _
        obtain ⟨f', rfl, -⟩ := fuel_pos (show 0 < f by omega)
        have nx : b_x_takeAll_14 (f' + 1) 1 1 (nI c + 1) u = some ((), u) := by
          show s_x_takeAll_14 (b_x_takeAll_14 f') _ _ _ _ = _
          unfold s_x_takeAll_14
          exact o_pos one0 rfl
        unfold s_x_takeAll_14 b_x_takeAll_43 b_x_takeAll_48
        refine o_neg (not_not_intro rfl) (o_neg (by (first | (simp (maxSteps := 4000000) (disch := omega) only [n_0, n_1, n_2, n_3, n_4, n_5, n_6, n_7, n_8, n_9, n_10, n_11, n_12, n_13, n_14, n_15, n_16, n_18, n_20, n_24, n_31, n_32, n_34, n_40, n_41, n_44, n_45, n_47, n_48, n_57, n_58, n_59, n_61, n_63, n_64, n_65, n_68, n_90, n_91, n_93, n_95, n_97, n_100, n_122, n_123, n_125, n_128, n_144, n_200, n_255, n_256, n_300, n_400, n_600, n_1536, n_3980, n_4000, n_4001, n_4300, n_65536, l_0, l_1, l_2, l_3, l_4, l_10, l_48, l_63, l_255, l_300, nI_ltI, nI_leI, nI_eq, nI_clamp, nI_add, pk_sub, pk_mul, nI_ne1, ne1_nI, nI_pge, nI_nlt0, nI_l, lN_i, lN_add, lN_mul, lN_sub, pk_lLT, pk_lLE, pk_lEQ, lg_lt, lg_ge, lg_eq0, lg_le, lg_gt, lg_ltn, lg_gen, lg_eq0n, lg_len, lg_gtn, Nat.zero_le, Nat.not_lt_zero, not_false_eq_true, not_true_eq_false, true_and, and_true]; done) | (simp (maxSteps := 4000000) (disch := omega) only [n_0, n_1, n_2, n_3, n_4, n_5, n_6, n_7, n_8, n_9, n_10, n_11, n_12, n_13, n_14, n_15, n_16, n_18, n_20, n_24, n_31, n_32, n_34, n_40, n_41, n_44, n_45, n_47, n_48, n_57, n_58, n_59, n_61, n_63, n_64, n_65, n_68, n_90, n_91, n_93, n_95, n_97, n_100, n_122, n_123, n_125, n_128, n_144, n_200, n_255, n_256, n_300, n_400, n_600, n_1536, n_3980, n_4000, n_4001, n_4300, n_65536, l_0, l_1, l_2, l_3, l_4, l_10, l_48, l_63, l_255, l_300, nI_ltI, nI_leI, nI_eq, nI_clamp, nI_add, pk_sub, pk_mul, nI_ne1, ne1_nI, nI_pge, nI_nlt0, nI_l, lN_i, lN_add, lN_mul, lN_sub, pk_lLT, pk_lLE, pk_lEQ, lg_lt, lg_ge, lg_eq0, lg_le, lg_gt, lg_ltn, lg_gen, lg_eq0n, lg_len, lg_gtn, Nat.zero_le, Nat.not_lt_zero, not_false_eq_true, not_true_eq_false, true_and, and_true]; omega) | omega)) (o_bind s1 ?_))
        rcases kd01 with q | q <;> subst q
        · exact o_pos rfl nx
        · exact o_neg one0 (o_neg (not_not_intro rfl) nx)
      · show s_m_cut_9 (b_m_cut_9 F1) _ _ _ = _
        unfold s_m_cut_9
        refine o_neg one0 ?_
        rw [f2]
        refine (s6 _).trans ?_
        rw [if_pos kd01]
        show s_m_cut_9 (b_m_cut_9 F3) _ _ _ = _
        unfold s_m_cut_9
        exact o_pos rfl rfl
      · by_cases ci : i = c
        · rw [ci]; exact s10
        · exact (tk i (by omega)).1.cg (s5 i ci) (s9 i ci)
      · rw [(s5 i (by omega)).1]
        exact (tk i (by omega)).2
      · rw [Nat.add_sub_cancel, s11]
        exact kd01
    · have kk : skB T (n - k) false k < k' ∧ k' ≤ n := by
        rcases s12 with q | q | q
        · exact absurd (Or.inl q) kd01
        · exact absurd (Or.inr q) kd01
        · exact q
      obtain ⟨u2, p2, c2, t1, t2, t3, t4, t5⟩ := ih k' (c + 1) F2 f u p (by omega) kk.2 (by omega) (by omega) (by omega) (C.frj s2) (M.fr s7) s3 s4 s8 (fun i hi' => by
        by_cases ci : i = c
        · rw [ci]
          exact ⟨s10, by rw [s11]; exact kd01⟩
        · refine ⟨(tk i (by omega)).1.cg (s5 i ci) (s9 i ci), ?_⟩
          rw [(s5 i ci).1]
          exact (tk i (by omega)).2)
      refine ⟨u2, p2, c2, ?_, ?_, s2.trans t3, s7.trans t4, t5⟩
      · show s_x_takeAll_14 (b_x_takeAll_14 f) _ _ _ _ = _
        unfold s_x_takeAll_14 b_x_takeAll_48
        refine o_neg (not_not_intro rfl) (o_neg (by (first | (simp (maxSteps := 4000000) (disch := omega) only [n_0, n_1, n_2, n_3, n_4, n_5, n_6, n_7, n_8, n_9, n_10, n_11, n_12, n_13, n_14, n_15, n_16, n_18, n_20, n_24, n_31, n_32, n_34, n_40, n_41, n_44, n_45, n_47, n_48, n_57, n_58, n_59, n_61, n_63, n_64, n_65, n_68, n_90, n_91, n_93, n_95, n_97, n_100, n_122, n_123, n_125, n_128, n_144, n_200, n_255, n_256, n_300, n_400, n_600, n_1536, n_3980, n_4000, n_4001, n_4300, n_65536, l_0, l_1, l_2, l_3, l_4, l_10, l_48, l_63, l_255, l_300, nI_ltI, nI_leI, nI_eq, nI_clamp, nI_add, pk_sub, pk_mul, nI_ne1, ne1_nI, nI_pge, nI_nlt0, nI_l, lN_i, lN_add, lN_mul, lN_sub, pk_lLT, pk_lLE, pk_lEQ, lg_lt, lg_ge, lg_eq0, lg_le, lg_gt, lg_ltn, lg_gen, lg_eq0n, lg_len, lg_gtn, Nat.zero_le, Nat.not_lt_zero, not_false_eq_true, not_true_eq_false, true_and, and_true]; done) | (simp (maxSteps := 4000000) (disch := omega) only [n_0, n_1, n_2, n_3, n_4, n_5, n_6, n_7, n_8, n_9, n_10, n_11, n_12, n_13, n_14, n_15, n_16, n_18, n_20, n_24, n_31, n_32, n_34, n_40, n_41, n_44, n_45, n_47, n_48, n_57, n_58, n_59, n_61, n_63, n_64, n_65, n_68, n_90, n_91, n_93, n_95, n_97, n_100, n_122, n_123, n_125, n_128, n_144, n_200, n_255, n_256, n_300, n_400, n_600, n_1536, n_3980, n_4000, n_4001, n_4300, n_65536, l_0, l_1, l_2, l_3, l_4, l_10, l_48, l_63, l_255, l_300, nI_ltI, nI_leI, nI_eq, nI_clamp, nI_add, pk_sub, pk_mul, nI_ne1, ne1_nI, nI_pge, nI_nlt0, nI_l, lN_i, lN_add, lN_mul, lN_sub, pk_lLT, pk_lLE, pk_lEQ, lg_lt, lg_ge, lg_eq0, lg_le, lg_gt, lg_ltn, lg_gen, lg_eq0n, lg_len, lg_gtn, Nat.zero_le, Nat.not_lt_zero, not_false_eq_true, not_true_eq_false, true_and, and_true]; omega) | omega)) (o_bind s1 (o_neg (fun z => kd01 (Or.inl z)) (o_pos (fun z => kd01 (Or.inr z)) ?_))))
        rw [n_1, nI_add]
        exact t1
      · show s_m_cut_9 (b_m_cut_9 F1) _ _ _ = _
        unfold s_m_cut_9
        refine o_neg one0 ?_
        rw [f2]
        refine (s6 _).trans ?_
        rw [if_neg kd01]
        exact t2
end All
