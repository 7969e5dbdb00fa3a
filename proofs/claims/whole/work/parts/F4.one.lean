/-! The lexers: all lexemes -/

/-- one lexeme more on both sides -/
def STEP (T : Nat → Nat) (n : Nat) (g h : XH) (c k : Nat) (R : Option (Int32 × XH)) (m : (Int32 → Int32 → XH → Option (Unit × XH)) → Option (Unit × XH)) : Prop := ∃ (kd : Int32) (u p : XH) (k' : Nat), R = some (kd, u) ∧ FRJ lP lJ g u ∧ hi u 7 4 = nI (c + 1) ∧ hi u 7 5 = nI k' ∧ sameC g u c ∧ (∀ K, m K = K (nI k') (if kd = 0 ∨ kd = 1 then 0 else 1) p) ∧ FRM mLx h p ∧ hi p 1262 12 = nI (c + 1) ∧ sameM h p c ∧ TK T n u p c ∧ hi u 8 c = kd ∧ (kd = 0 ∨ kd = 1 ∨ (k < k' ∧ k' ≤ n))
section One
variable {h g : XH} {T : Nat → Nat} {n c j : Nat}
theorem MTx.fr (M : MTx h T n) (F : FRM mLx h g) : MTx g T n := ⟨by rw [F.at (by simp [mLx])]; exact M.1, M.2.1, M.2.2.1, fun k hk' => by rw [F.at (by simp [mLx])]; exact M.2.2.2 k hk'⟩
theorem m106 {K : Int32 → Int32 → XH → Option (Unit × XH)} {p : XH} {k' : Nat} {x y : Int32} (M : MTx h T n) (jn : j < n) (o : f_m_one (nI j) h = some (nI k', p)) (e12 : hi p 1262 12 = nI (c + 1)) (c4 : c ≤ 4000) (ex : hi p 1266 c = x) (hy : (x = 1 ∧ y = 0) ∨ (¬ x = 1 ∧ y = 1)) : b_m_cut_106 K (nI j) h = K (nI k') y p := by
  have n4 := M.2.1
  unfold b_m_cut_106 b_m_cut_159
  rw [M.1]
  refine o_pos (by (first | (simp (maxSteps := 4000000) (disch := omega) only [n_0, n_1, n_2, n_3, n_4, n_5, n_6, n_7, n_8, n_9, n_10, n_11, n_12, n_13, n_14, n_15, n_16, n_18, n_20, n_24, n_31, n_32, n_34, n_40, n_41, n_44, n_45, n_47, n_48, n_57, n_58, n_59, n_61, n_63, n_64, n_65, n_68, n_90, n_91, n_93, n_95, n_97, n_100, n_122, n_123, n_125, n_128, n_144, n_200, n_255, n_256, n_300, n_400, n_600, n_1536, n_3980, n_4000, n_4001, n_4300, n_65536, l_0, l_1, l_2, l_3, l_4, l_10, l_48, l_63, l_255, l_300, nI_ltI, nI_leI, nI_eq, nI_clamp, nI_add, pk_sub, pk_mul, nI_ne1, ne1_nI, nI_pge, nI_nlt0, nI_l, lN_i, lN_add, lN_mul, lN_sub, pk_lLT, pk_lLE, pk_lEQ, lg_lt, lg_ge, lg_eq0, lg_le, lg_gt, lg_ltn, lg_gen, lg_eq0n, lg_len, lg_gtn, Nat.zero_le, Nat.not_lt_zero, not_false_eq_true, not_true_eq_false, true_and, and_true]; done) | (simp (maxSteps := 4000000) (disch := omega) only [n_0, n_1, n_2, n_3, n_4, n_5, n_6, n_7, n_8, n_9, n_10, n_11, n_12, n_13, n_14, n_15, n_16, n_18, n_20, n_24, n_31, n_32, n_34, n_40, n_41, n_44, n_45, n_47, n_48, n_57, n_58, n_59, n_61, n_63, n_64, n_65, n_68, n_90, n_91, n_93, n_95, n_97, n_100, n_122, n_123, n_125, n_128, n_144, n_200, n_255, n_256, n_300, n_400, n_600, n_1536, n_3980, n_4000, n_4001, n_4300, n_65536, l_0, l_1, l_2, l_3, l_4, l_10, l_48, l_63, l_255, l_300, nI_ltI, nI_leI, nI_eq, nI_clamp, nI_add, pk_sub, pk_mul, nI_ne1, ne1_nI, nI_pge, nI_nlt0, nI_l, lN_i, lN_add, lN_mul, lN_sub, pk_lLT, pk_lLE, pk_lEQ, lg_lt, lg_ge, lg_eq0, lg_le, lg_gt, lg_ltn, lg_gen, lg_eq0n, lg_len, lg_gtn, Nat.zero_le, Nat.not_lt_zero, not_false_eq_true, not_true_eq_false, true_and, and_true]; omega) | omega)) (o_bind o ?_)
  dsimp only
  rw [e12, n_1, pk_sub (by omega), Nat.add_sub_cancel, nI_clamp (show c < 2 ^ 31 by omega), ex]
  refine o_pos (by (first | (simp (maxSteps := 4000000) (disch := omega) only [n_0, n_1, n_2, n_3, n_4, n_5, n_6, n_7, n_8, n_9, n_10, n_11, n_12, n_13, n_14, n_15, n_16, n_18, n_20, n_24, n_31, n_32, n_34, n_40, n_41, n_44, n_45, n_47, n_48, n_57, n_58, n_59, n_61, n_63, n_64, n_65, n_68, n_90, n_91, n_93, n_95, n_97, n_100, n_122, n_123, n_125, n_128, n_144, n_200, n_255, n_256, n_300, n_400, n_600, n_1536, n_3980, n_4000, n_4001, n_4300, n_65536, l_0, l_1, l_2, l_3, l_4, l_10, l_48, l_63, l_255, l_300, nI_ltI, nI_leI, nI_eq, nI_clamp, nI_add, pk_sub, pk_mul, nI_ne1, ne1_nI, nI_pge, nI_nlt0, nI_l, lN_i, lN_add, lN_mul, lN_sub, pk_lLT, pk_lLE, pk_lEQ, lg_lt, lg_ge, lg_eq0, lg_le, lg_gt, lg_ltn, lg_gen, lg_eq0n, lg_len, lg_gtn, Nat.zero_le, Nat.not_lt_zero, not_false_eq_true, not_true_eq_false, true_and, and_true]; done) | (simp (maxSteps := 4000000) (disch := omega) only [n_0, n_1, n_2, n_3, n_4, n_5, n_6, n_7, n_8, n_9, n_10, n_11, n_12, n_13, n_14, n_15, n_16, n_18, n_20, n_24, n_31, n_32, n_34, n_40, n_41, n_44, n_45, n_47, n_48, n_57, n_58, n_59, n_61, n_63, n_64, n_65, n_68, n_90, n_91, n_93, n_95, n_97, n_100, n_122, n_123, n_125, n_128, n_144, n_200, n_255, n_256, n_300, n_400, n_600, n_1536, n_3980, n_4000, n_4001, n_4300, n_65536, l_0, l_1, l_2, l_3, l_4, l_10, l_48, l_63, l_255, l_300, nI_ltI, nI_leI, nI_eq, nI_clamp, nI_add, pk_sub, pk_mul, nI_ne1, ne1_nI, nI_pge, nI_nlt0, nI_l, lN_i, lN_add, lN_mul, lN_sub, pk_lLT, pk_lLE, pk_lEQ, lg_lt, lg_ge, lg_eq0, lg_le, lg_gt, lg_ltn, lg_gen, lg_eq0n, lg_len, lg_gtn, Nat.zero_le, Nat.not_lt_zero, not_false_eq_true, not_true_eq_false, true_and, and_true]; omega) | omega)) ?_
  rcases hy with ⟨q1, q2⟩ | ⟨q1, q2⟩
  · rw [q2]
    exact o_pos q1 rfl
  · rw [q2]
    exact o_neg q1 rfl
theorem tk_word (C : CTx g T n) (M : MTx h T n) (e4 : hi g 7 4 = nI c) (c4 : c ≤ 4000) (e5 : hi g 7 5 = nI j) (jn : j < n) (e12 : hi h 1262 12 = nI c) (lt : isLt (T j)) : STEP T n g h c j (f_x_takeWord 1 g) (fun K => b_m_cut_106 K (nI j) h) := by
  have n4 := C.2.2.1
  have lT := M.2.2.1 j
  obtain ⟨b, hb⟩ : ∃ b, b = wE T (n - j) j := ⟨_, rfl⟩
  have w1 := wE_le (T := T) (n - j) j
  have wb : wE T (n - j) j = wE T (n - (j + 1)) (j + 1) := by
    rw [show n - j = (n - (j + 1)) + 1 by omega, wE, if_pos (wsB_iff.mpr (Or.inl lt))]
  have w2 := wE_le (T := T) (n - (j + 1)) (j + 1)
  rw [← wb] at w2
  rw [← hb] at w1 w2
  obtain ⟨g1, y1, F1, y2, y3, y4⟩ := e_x_wEnd (a := nI j) (n - j) j 100000 g (by omega) (by omega) C e5
  rw [← hb] at y2
  have C1 := C.frj F1
  have nz : ∀ k, j ≤ k → k < b → 0 < T k := fun k h1 h2 => by
    have := w1.2.2 k h1 h2
    unfold isLt isDg at this
    omega
  -- the model's part
  have mo : ∀ (kd ow : Int32), (b ≤ j + 16 ∧ kd = 2 ∨ j + 16 < b ∧ kd = 1) → f_m_keyword (nI j) (nI b) h = some (ow, h) → ∀ p, f_m_lexeme kd (nI j) (nI b) ow h = some ((), p) → f_m_one (nI j) h = some (nI b, p) := by
    intro kd ow hk' kw p lx
    unfold f_m_one
    rw [nI_clamp (show j < 2 ^ 31 by omega), M.2.2.2 j jn, n_1, nI_add]
    refine o_pos (by (first | (simp (maxSteps := 4000000) (disch := omega) only [n_0, n_1, n_2, n_3, n_4, n_5, n_6, n_7, n_8, n_9, n_10, n_11, n_12, n_13, n_14, n_15, n_16, n_18, n_20, n_24, n_31, n_32, n_34, n_40, n_41, n_44, n_45, n_47, n_48, n_57, n_58, n_59, n_61, n_63, n_64, n_65, n_68, n_90, n_91, n_93, n_95, n_97, n_100, n_122, n_123, n_125, n_128, n_144, n_200, n_255, n_256, n_300, n_400, n_600, n_1536, n_3980, n_4000, n_4001, n_4300, n_65536, l_0, l_1, l_2, l_3, l_4, l_10, l_48, l_63, l_255, l_300, nI_ltI, nI_leI, nI_eq, nI_clamp, nI_add, pk_sub, pk_mul, nI_ne1, ne1_nI, nI_pge, nI_nlt0, nI_l, lN_i, lN_add, lN_mul, lN_sub, pk_lLT, pk_lLE, pk_lEQ, lg_lt, lg_ge, lg_eq0, lg_le, lg_gt, lg_ltn, lg_gen, lg_eq0n, lg_len, lg_gtn, Nat.zero_le, Nat.not_lt_zero, not_false_eq_true, not_true_eq_false, true_and, and_true]; done) | (simp (maxSteps := 4000000) (disch := omega) only [n_0, n_1, n_2, n_3, n_4, n_5, n_6, n_7, n_8, n_9, n_10, n_11, n_12, n_13, n_14, n_15, n_16, n_18, n_20, n_24, n_31, n_32, n_34, n_40, n_41, n_44, n_45, n_47, n_48, n_57, n_58, n_59, n_61, n_63, n_64, n_65, n_68, n_90, n_91, n_93, n_95, n_97, n_100, n_122, n_123, n_125, n_128, n_144, n_200, n_255, n_256, n_300, n_400, n_600, n_1536, n_3980, n_4000, n_4001, n_4300, n_65536, l_0, l_1, l_2, l_3, l_4, l_10, l_48, l_63, l_255, l_300, nI_ltI, nI_leI, nI_eq, nI_clamp, nI_add, pk_sub, pk_mul, nI_ne1, ne1_nI, nI_pge, nI_nlt0, nI_l, lN_i, lN_add, lN_mul, lN_sub, pk_lLT, pk_lLE, pk_lEQ, lg_lt, lg_ge, lg_eq0, lg_le, lg_gt, lg_ltn, lg_gen, lg_eq0n, lg_len, lg_gtn, Nat.zero_le, Nat.not_lt_zero, not_false_eq_true, not_true_eq_false, true_and, and_true]; omega) | omega)) ?_
    rcases e_m_isLetter (h := h) lT with ⟨q1, q2⟩ | ⟨q1, q2⟩
    · refine o_bind q2 (o_neg one0 ?_)
      dsimp only
      rw [e_m_wEnd M (n - (j + 1)) (j + 1) 100000 (by omega) (by omega) (by omega), ← wb, ← hb, pk_sub (by omega)]
      unfold b_m_one_60
      rcases hk' with ⟨h1, h2⟩ | ⟨h1, h2⟩
      · rw [h2] at lx
        exact o_pos (by (first | (simp (maxSteps := 4000000) (disch := omega) only [n_0, n_1, n_2, n_3, n_4, n_5, n_6, n_7, n_8, n_9, n_10, n_11, n_12, n_13, n_14, n_15, n_16, n_18, n_20, n_24, n_31, n_32, n_34, n_40, n_41, n_44, n_45, n_47, n_48, n_57, n_58, n_59, n_61, n_63, n_64, n_65, n_68, n_90, n_91, n_93, n_95, n_97, n_100, n_122, n_123, n_125, n_128, n_144, n_200, n_255, n_256, n_300, n_400, n_600, n_1536, n_3980, n_4000, n_4001, n_4300, n_65536, l_0, l_1, l_2, l_3, l_4, l_10, l_48, l_63, l_255, l_300, nI_ltI, nI_leI, nI_eq, nI_clamp, nI_add, pk_sub, pk_mul, nI_ne1, ne1_nI, nI_pge, nI_nlt0, nI_l, lN_i, lN_add, lN_mul, lN_sub, pk_lLT, pk_lLE, pk_lEQ, lg_lt, lg_ge, lg_eq0, lg_le, lg_gt, lg_ltn, lg_gen, lg_eq0n, lg_len, lg_gtn, Nat.zero_le, Nat.not_lt_zero, not_false_eq_true, not_true_eq_false, true_and, and_true]; done) | (simp (maxSteps := 4000000) (disch := omega) only [n_0, n_1, n_2, n_3, n_4, n_5, n_6, n_7, n_8, n_9, n_10, n_11, n_12, n_13, n_14, n_15, n_16, n_18, n_20, n_24, n_31, n_32, n_34, n_40, n_41, n_44, n_45, n_47, n_48, n_57, n_58, n_59, n_61, n_63, n_64, n_65, n_68, n_90, n_91, n_93, n_95, n_97, n_100, n_122, n_123, n_125, n_128, n_144, n_200, n_255, n_256, n_300, n_400, n_600, n_1536, n_3980, n_4000, n_4001, n_4300, n_65536, l_0, l_1, l_2, l_3, l_4, l_10, l_48, l_63, l_255, l_300, nI_ltI, nI_leI, nI_eq, nI_clamp, nI_add, pk_sub, pk_mul, nI_ne1, ne1_nI, nI_pge, nI_nlt0, nI_l, lN_i, lN_add, lN_mul, lN_sub, pk_lLT, pk_lLE, pk_lEQ, lg_lt, lg_ge, lg_eq0, lg_le, lg_gt, lg_ltn, lg_gen, lg_eq0n, lg_len, lg_gtn, Nat.zero_le, Nat.not_lt_zero, not_false_eq_true, not_true_eq_false, true_and, and_true]; omega) | omega)) (o_bind kw (o_bind lx rfl))
      · rw [h2] at lx
        exact o_neg (by (first | (simp (maxSteps := 4000000) (disch := omega) only [n_0, n_1, n_2, n_3, n_4, n_5, n_6, n_7, n_8, n_9, n_10, n_11, n_12, n_13, n_14, n_15, n_16, n_18, n_20, n_24, n_31, n_32, n_34, n_40, n_41, n_44, n_45, n_47, n_48, n_57, n_58, n_59, n_61, n_63, n_64, n_65, n_68, n_90, n_91, n_93, n_95, n_97, n_100, n_122, n_123, n_125, n_128, n_144, n_200, n_255, n_256, n_300, n_400, n_600, n_1536, n_3980, n_4000, n_4001, n_4300, n_65536, l_0, l_1, l_2, l_3, l_4, l_10, l_48, l_63, l_255, l_300, nI_ltI, nI_leI, nI_eq, nI_clamp, nI_add, pk_sub, pk_mul, nI_ne1, ne1_nI, nI_pge, nI_nlt0, nI_l, lN_i, lN_add, lN_mul, lN_sub, pk_lLT, pk_lLE, pk_lEQ, lg_lt, lg_ge, lg_eq0, lg_le, lg_gt, lg_ltn, lg_gen, lg_eq0n, lg_len, lg_gtn, Nat.zero_le, Nat.not_lt_zero, not_false_eq_true, not_true_eq_false, true_and, and_true]; done) | (simp (maxSteps := 4000000) (disch := omega) only [n_0, n_1, n_2, n_3, n_4, n_5, n_6, n_7, n_8, n_9, n_10, n_11, n_12, n_13, n_14, n_15, n_16, n_18, n_20, n_24, n_31, n_32, n_34, n_40, n_41, n_44, n_45, n_47, n_48, n_57, n_58, n_59, n_61, n_63, n_64, n_65, n_68, n_90, n_91, n_93, n_95, n_97, n_100, n_122, n_123, n_125, n_128, n_144, n_200, n_255, n_256, n_300, n_400, n_600, n_1536, n_3980, n_4000, n_4001, n_4300, n_65536, l_0, l_1, l_2, l_3, l_4, l_10, l_48, l_63, l_255, l_300, nI_ltI, nI_leI, nI_eq, nI_clamp, nI_add, pk_sub, pk_mul, nI_ne1, ne1_nI, nI_pge, nI_nlt0, nI_l, lN_i, lN_add, lN_mul, lN_sub, pk_lLT, pk_lLE, pk_lEQ, lg_lt, lg_ge, lg_eq0, lg_le, lg_gt, lg_ltn, lg_gen, lg_eq0n, lg_len, lg_gtn, Nat.zero_le, Nat.not_lt_zero, not_false_eq_true, not_true_eq_false, true_and, and_true]; omega) | omega)) (o_bind kw (o_bind lx rfl))
    · exact absurd lt q1
  have cl : ∀ X : Option (Int32 × XH), (if b ≤ j + 16 then b_x_takeWord_65 100000 1 (nI j) 0 g1 else f_x_keep 1 (nI j) 0 0 g1) = X → f_x_takeWord 1 g = X := by
    intro X q
    unfold f_x_takeWord
    rw [e5, y1]
    unfold b_x_takeWord_43
    rw [y2, pk_sub w1.1, ← q]
    by_cases cc : b ≤ j + 16
    · rw [if_pos cc]
      exact o_pos (by (first | (simp (maxSteps := 4000000) (disch := omega) only [n_0, n_1, n_2, n_3, n_4, n_5, n_6, n_7, n_8, n_9, n_10, n_11, n_12, n_13, n_14, n_15, n_16, n_18, n_20, n_24, n_31, n_32, n_34, n_40, n_41, n_44, n_45, n_47, n_48, n_57, n_58, n_59, n_61, n_63, n_64, n_65, n_68, n_90, n_91, n_93, n_95, n_97, n_100, n_122, n_123, n_125, n_128, n_144, n_200, n_255, n_256, n_300, n_400, n_600, n_1536, n_3980, n_4000, n_4001, n_4300, n_65536, l_0, l_1, l_2, l_3, l_4, l_10, l_48, l_63, l_255, l_300, nI_ltI, nI_leI, nI_eq, nI_clamp, nI_add, pk_sub, pk_mul, nI_ne1, ne1_nI, nI_pge, nI_nlt0, nI_l, lN_i, lN_add, lN_mul, lN_sub, pk_lLT, pk_lLE, pk_lEQ, lg_lt, lg_ge, lg_eq0, lg_le, lg_gt, lg_ltn, lg_gen, lg_eq0n, lg_len, lg_gtn, Nat.zero_le, Nat.not_lt_zero, not_false_eq_true, not_true_eq_false, true_and, and_true]; done) | (simp (maxSteps := 4000000) (disch := omega) only [n_0, n_1, n_2, n_3, n_4, n_5, n_6, n_7, n_8, n_9, n_10, n_11, n_12, n_13, n_14, n_15, n_16, n_18, n_20, n_24, n_31, n_32, n_34, n_40, n_41, n_44, n_45, n_47, n_48, n_57, n_58, n_59, n_61, n_63, n_64, n_65, n_68, n_90, n_91, n_93, n_95, n_97, n_100, n_122, n_123, n_125, n_128, n_144, n_200, n_255, n_256, n_300, n_400, n_600, n_1536, n_3980, n_4000, n_4001, n_4300, n_65536, l_0, l_1, l_2, l_3, l_4, l_10, l_48, l_63, l_255, l_300, nI_ltI, nI_leI, nI_eq, nI_clamp, nI_add, pk_sub, pk_mul, nI_ne1, ne1_nI, nI_pge, nI_nlt0, nI_l, lN_i, lN_add, lN_mul, lN_sub, pk_lLT, pk_lLE, pk_lEQ, lg_lt, lg_ge, lg_eq0, lg_le, lg_gt, lg_ltn, lg_gen, lg_eq0n, lg_len, lg_gtn, Nat.zero_le, Nat.not_lt_zero, not_false_eq_true, not_true_eq_false, true_and, and_true]; omega) | omega)) rfl
    · rw [if_neg cc]
      refine o_neg (by (first | (simp (maxSteps := 4000000) (disch := omega) only [n_0, n_1, n_2, n_3, n_4, n_5, n_6, n_7, n_8, n_9, n_10, n_11, n_12, n_13, n_14, n_15, n_16, n_18, n_20, n_24, n_31, n_32, n_34, n_40, n_41, n_44, n_45, n_47, n_48, n_57, n_58, n_59, n_61, n_63, n_64, n_65, n_68, n_90, n_91, n_93, n_95, n_97, n_100, n_122, n_123, n_125, n_128, n_144, n_200, n_255, n_256, n_300, n_400, n_600, n_1536, n_3980, n_4000, n_4001, n_4300, n_65536, l_0, l_1, l_2, l_3, l_4, l_10, l_48, l_63, l_255, l_300, nI_ltI, nI_leI, nI_eq, nI_clamp, nI_add, pk_sub, pk_mul, nI_ne1, ne1_nI, nI_pge, nI_nlt0, nI_l, lN_i, lN_add, lN_mul, lN_sub, pk_lLT, pk_lLE, pk_lEQ, lg_lt, lg_ge, lg_eq0, lg_le, lg_gt, lg_ltn, lg_gen, lg_eq0n, lg_len, lg_gtn, Nat.zero_le, Nat.not_lt_zero, not_false_eq_true, not_true_eq_false, true_and, and_true]; done) | (simp (maxSteps := 4000000) (disch := omega) only [n_0, n_1, n_2, n_3, n_4, n_5, n_6, n_7, n_8, n_9, n_10, n_11, n_12, n_13, n_14, n_15, n_16, n_18, n_20, n_24, n_31, n_32, n_34, n_40, n_41, n_44, n_45, n_47, n_48, n_57, n_58, n_59, n_61, n_63, n_64, n_65, n_68, n_90, n_91, n_93, n_95, n_97, n_100, n_122, n_123, n_125, n_128, n_144, n_200, n_255, n_256, n_300, n_400, n_600, n_1536, n_3980, n_4000, n_4001, n_4300, n_65536, l_0, l_1, l_2, l_3, l_4, l_10, l_48, l_63, l_255, l_300, nI_ltI, nI_leI, nI_eq, nI_clamp, nI_add, pk_sub, pk_mul, nI_ne1, ne1_nI, nI_pge, nI_nlt0, nI_l, lN_i, lN_add, lN_mul, lN_sub, pk_lLT, pk_lLE, pk_lEQ, lg_lt, lg_ge, lg_eq0, lg_le, lg_gt, lg_ltn, lg_gen, lg_eq0n, lg_len, lg_gtn, Nat.zero_le, Nat.not_lt_zero, not_false_eq_true, not_true_eq_false, true_and, and_true]; omega) | omega)) ?_
      cases f_x_keep 1 (nI j) 0 0 g1 with
      | none => rfl
      | some v => rfl
  -- joined, by what is kept
  have fin : ∀ (kd : Int32) (hd tl : Int64) (mk ow : Int32), (b ≤ j + 16 ∧ mk = 2 ∨ j + 16 < b ∧ mk = 1) → f_m_keyword (nI j) (nI b) h = some (ow, h) → f_x_takeWord 1 g = f_x_keep kd (nI j) hd tl g1 → ((kd = 0 ∨ kd = 1) ∧ mk = 1 ∨ ¬ (kd = 0 ∨ kd = 1) ∧ ¬ mk = 1) → (∀ u p : XH, hi u 8 c = kd → hj u 10 c = hd → hj u 11 c = tl → hi p 1266 c = mk → hi p 1269 c = ow → hi u 9 c = nI j → hi p 1267 c = nI j → hi p 1268 c = nI b → TK T n u p c) → STEP T n g h c j (f_x_takeWord 1 g) (fun K => b_m_cut_106 K (nI j) h) := by
    intro kd hd tl mk ow hk' kw ck hkd tk
    obtain ⟨u, x1, x2, x3, x4, ⟨x5, x6, x7, x8⟩, x9⟩ := e_x_keep (g := g1) (c := c) (x := kd) (y := nI j) (p := hd) (q := tl) (by rw [y3]; exact e4) c4
    obtain ⟨p, z1, z2, z3, ⟨z4, z5, z6, z7⟩, z8⟩ := e_m_lexeme (h := h) (c := c) (x0 := mk) (x1 := nI j) (x2 := nI b) (x3 := ow) e12 c4
    refine ⟨kd, u, p, b, ck.trans x1, F1.trans x2, x3, by rw [x4]; exact y2, fun i hi' => ?_, fun K => ?_, z2, z3, z8, tk u p x5 x7 x8 z4 z7 x6 z5 z6, x5, ?_⟩
    · obtain ⟨a1, a2, a3, a4⟩ := x9 i hi'
      obtain ⟨b1, b2, b3, b4⟩ := y4 i
      exact ⟨a1.trans b1, a2.trans b2, a3.trans b3, a4.trans b4⟩
    · rcases hkd with ⟨q1, q2⟩ | ⟨q1, q2⟩
      · rw [if_pos q1]
        exact m106 M jn (mo mk ow hk' kw p z1) z3 c4 z4 (Or.inl ⟨q2, rfl⟩)
      · rw [if_neg q1]
        exact m106 M jn (mo mk ow hk' kw p z1) z3 c4 z4 (Or.inr ⟨q2, rfl⟩)
    · exact Or.inr (Or.inr ⟨by omega, by omega⟩)
  by_cases cc : b ≤ j + 16
  · have kw := e_m_keyword (a := j) (b := b) M w1.1 (by omega)
    rcases e_x_words (a := j) (b := b) C1 y2 w1.1 (by omega) cc with ⟨w, v1, v2, v3⟩ | ⟨w, v0, v1, v2, v3⟩ | ⟨v2, v3⟩
    · have kw2 : f_m_keyword (nI j) (nI b) h = some (nI w, h) := by
        rcases kw with ⟨w', k1, k2, k3⟩ | ⟨k1, -⟩
        · rw [Mw_uni (by omega) k1 v2 k2]; exact k3
        · exact absurd v2 (k1 w (by omega))
      refine fin 4 (lN w) 0 2 (nI w) (Or.inl ⟨cc, rfl⟩) kw2 (cl _ (by rw [if_pos cc]; exact v3)) (Or.inr ⟨by decide, by decide⟩) (fun u p a1 a2 a3 a4 a5 a6 a7 a8 => ⟨j, b, w1.1, by omega, a6, a7, a8, Or.inr (Or.inr (Or.inr (Or.inr (Or.inl ⟨w, v1, a1, a2, a4, a5⟩))))⟩)
    · have kw2 : f_m_keyword (nI j) (nI b) h = some (nI w, h) := by
        rcases kw with ⟨w', k1, k2, k3⟩ | ⟨k1, -⟩
        · rw [Mw_uni (by omega) k1 v2 k2]; exact k3
        · exact absurd v2 (k1 w (by omega))
      have kk : 5 ≤ kc w ∧ kc w ≤ 10 := by unfold kc; by_cases q : w = 16 <;> simp only [q, if_true, if_false] <;> omega
      refine fin (nI (kc w)) 0 0 2 (nI w) (Or.inl ⟨cc, rfl⟩) kw2 (cl _ (by rw [if_pos cc]; exact v3)) (Or.inr ⟨fun z => z.elim (show ¬ nI (kc w) = nI 0 by (first | (simp (maxSteps := 4000000) (disch := omega) only [n_0, n_1, n_2, n_3, n_4, n_5, n_6, n_7, n_8, n_9, n_10, n_11, n_12, n_13, n_14, n_15, n_16, n_18, n_20, n_24, n_31, n_32, n_34, n_40, n_41, n_44, n_45, n_47, n_48, n_57, n_58, n_59, n_61, n_63, n_64, n_65, n_68, n_90, n_91, n_93, n_95, n_97, n_100, n_122, n_123, n_125, n_128, n_144, n_200, n_255, n_256, n_300, n_400, n_600, n_1536, n_3980, n_4000, n_4001, n_4300, n_65536, l_0, l_1, l_2, l_3, l_4, l_10, l_48, l_63, l_255, l_300, nI_ltI, nI_leI, nI_eq, nI_clamp, nI_add, pk_sub, pk_mul, nI_ne1, ne1_nI, nI_pge, nI_nlt0, nI_l, lN_i, lN_add, lN_mul, lN_sub, pk_lLT, pk_lLE, pk_lEQ, lg_lt, lg_ge, lg_eq0, lg_le, lg_gt, lg_ltn, lg_gen, lg_eq0n, lg_len, lg_gtn, Nat.zero_le, Nat.not_lt_zero, not_false_eq_true, not_true_eq_false, true_and, and_true]; done) | (simp (maxSteps := 4000000) (disch := omega) only [n_0, n_1, n_2, n_3, n_4, n_5, n_6, n_7, n_8, n_9, n_10, n_11, n_12, n_13, n_14, n_15, n_16, n_18, n_20, n_24, n_31, n_32, n_34, n_40, n_41, n_44, n_45, n_47, n_48, n_57, n_58, n_59, n_61, n_63, n_64, n_65, n_68, n_90, n_91, n_93, n_95, n_97, n_100, n_122, n_123, n_125, n_128, n_144, n_200, n_255, n_256, n_300, n_400, n_600, n_1536, n_3980, n_4000, n_4001, n_4300, n_65536, l_0, l_1, l_2, l_3, l_4, l_10, l_48, l_63, l_255, l_300, nI_ltI, nI_leI, nI_eq, nI_clamp, nI_add, pk_sub, pk_mul, nI_ne1, ne1_nI, nI_pge, nI_nlt0, nI_l, lN_i, lN_add, lN_mul, lN_sub, pk_lLT, pk_lLE, pk_lEQ, lg_lt, lg_ge, lg_eq0, lg_le, lg_gt, lg_ltn, lg_gen, lg_eq0n, lg_len, lg_gtn, Nat.zero_le, Nat.not_lt_zero, not_false_eq_true, not_true_eq_false, true_and, and_true]; omega) | omega)) (show ¬ nI (kc w) = nI 1 by (first | (simp (maxSteps := 4000000) (disch := omega) only [n_0, n_1, n_2, n_3, n_4, n_5, n_6, n_7, n_8, n_9, n_10, n_11, n_12, n_13, n_14, n_15, n_16, n_18, n_20, n_24, n_31, n_32, n_34, n_40, n_41, n_44, n_45, n_47, n_48, n_57, n_58, n_59, n_61, n_63, n_64, n_65, n_68, n_90, n_91, n_93, n_95, n_97, n_100, n_122, n_123, n_125, n_128, n_144, n_200, n_255, n_256, n_300, n_400, n_600, n_1536, n_3980, n_4000, n_4001, n_4300, n_65536, l_0, l_1, l_2, l_3, l_4, l_10, l_48, l_63, l_255, l_300, nI_ltI, nI_leI, nI_eq, nI_clamp, nI_add, pk_sub, pk_mul, nI_ne1, ne1_nI, nI_pge, nI_nlt0, nI_l, lN_i, lN_add, lN_mul, lN_sub, pk_lLT, pk_lLE, pk_lEQ, lg_lt, lg_ge, lg_eq0, lg_le, lg_gt, lg_ltn, lg_gen, lg_eq0n, lg_len, lg_gtn, Nat.zero_le, Nat.not_lt_zero, not_false_eq_true, not_true_eq_false, true_and, and_true]; done) | (simp (maxSteps := 4000000) (disch := omega) only [n_0, n_1, n_2, n_3, n_4, n_5, n_6, n_7, n_8, n_9, n_10, n_11, n_12, n_13, n_14, n_15, n_16, n_18, n_20, n_24, n_31, n_32, n_34, n_40, n_41, n_44, n_45, n_47, n_48, n_57, n_58, n_59, n_61, n_63, n_64, n_65, n_68, n_90, n_91, n_93, n_95, n_97, n_100, n_122, n_123, n_125, n_128, n_144, n_200, n_255, n_256, n_300, n_400, n_600, n_1536, n_3980, n_4000, n_4001, n_4300, n_65536, l_0, l_1, l_2, l_3, l_4, l_10, l_48, l_63, l_255, l_300, nI_ltI, nI_leI, nI_eq, nI_clamp, nI_add, pk_sub, pk_mul, nI_ne1, ne1_nI, nI_pge, nI_nlt0, nI_l, lN_i, lN_add, lN_mul, lN_sub, pk_lLT, pk_lLE, pk_lEQ, lg_lt, lg_ge, lg_eq0, lg_le, lg_gt, lg_ltn, lg_gen, lg_eq0n, lg_len, lg_gtn, Nat.zero_le, Nat.not_lt_zero, not_false_eq_true, not_true_eq_false, true_and, and_true]; omega) | omega)), by decide⟩) (fun u p a1 a2 a3 a4 a5 a6 a7 a8 => ⟨j, b, w1.1, by omega, a6, a7, a8, Or.inr (Or.inr (Or.inr (Or.inr (Or.inr (Or.inl ⟨w, v0, v1, a1, a4, a5⟩)))))⟩)
    · have kw2 : f_m_keyword (nI j) (nI b) h = some (-1, h) := by
        rcases kw with ⟨w', k1, k2, k3⟩ | ⟨-, k1⟩
        · exact absurd k2 (v2 w' k1)
        · exact k1
      exact fin 2 _ _ 2 (-1) (Or.inl ⟨cc, rfl⟩) kw2 (cl _ (by rw [if_pos cc]; exact v3)) (Or.inr ⟨by decide, by decide⟩) (fun u p a1 a2 a3 a4 a5 a6 a7 a8 => ⟨j, b, w1.1, by omega, a6, a7, a8, Or.inr (Or.inr (Or.inl ⟨a1, a4, a5, by omega, by omega, nz, a2, a3⟩))⟩)
  · have kw : ∃ ow, f_m_keyword (nI j) (nI b) h = some (ow, h) := by
      rcases e_m_keyword (a := j) (b := b) M w1.1 (by omega) with ⟨w', k1, k2, k3⟩ | ⟨-, k1⟩
      · exact ⟨_, k3⟩
      · exact ⟨_, k1⟩
    obtain ⟨ow, kw⟩ := kw
    exact fin 1 0 0 1 ow (Or.inr ⟨by omega, rfl⟩) kw (cl _ (by rw [if_neg cc])) (Or.inl ⟨Or.inr rfl, rfl⟩) (fun u p a1 a2 a3 a4 a5 a6 a7 a8 => ⟨j, b, w1.1, by omega, a6, a7, a8, Or.inr (Or.inl ⟨a1, a4⟩)⟩)
theorem tk_whole (C : CTx g T n) (M : MTx h T n) (e4 : hi g 7 4 = nI c) (c4 : c ≤ 4000) (e5 : hi g 7 5 = nI j) (jn : j < n) (e12 : hi h 1262 12 = nI c) (nlt : ¬ isLt (T j)) (dg : isDg (T j) ∨ T j = 45) : STEP T n g h c j (f_x_takeWhole 1 g) (fun K => b_m_cut_106 K (nI j) h) := by
  have n4 := C.2.2.1
  have lT := M.2.2.1 j
  have oc := e_b_octet (i := j) C.1.b1 (by omega)
  rw [C.2.2.2] at oc
  -- where the digits begin
  obtain ⟨s, x3, hs⟩ : ∃ (s : Nat) (x3 : Int32), (T j = 45 ∧ s = j + 1 ∧ x3 = 1) ∨ (¬ T j = 45 ∧ s = j ∧ x3 = 0) := by
    by_cases q : T j = 45
    · exact ⟨j + 1, 1, Or.inl ⟨q, rfl, rfl⟩⟩
    · exact ⟨j, 0, Or.inr ⟨q, rfl, rfl⟩⟩
  have sj : j ≤ s ∧ s ≤ j + 1 := by omega
  have cl0 : ∃ g0, FRJ lP lJ g g0 ∧ hi g0 7 5 = nI s ∧ hi g0 7 4 = nI c ∧ (∀ i, hi g0 8 i = hi g 8 i ∧ hi g0 9 i = hi g 9 i ∧ hj g0 10 i = hj g 10 i ∧ hj g0 11 i = hj g 11 i) ∧ ∀ X, b_x_takeWhole_44 100000 1 (nI j) x3 (nI s) (lN 0) g0 = X → f_x_takeWhole 1 g = X := by
    rcases hs with ⟨q1, q2, q3⟩ | ⟨q1, q2, q3⟩
    · refine ⟨hsi g 7 5 (nI (j + 1)), s75_frj, by rw [hi_at, q2], by rw [hi_nk (by decide)]; exact e4, fun i => ⟨by rw [hi_hsi_ne (by decide)], by rw [hi_hsi_ne (by decide)], rfl, rfl⟩, fun X q => ?_⟩
      unfold f_x_takeWhole
      rw [e5]
      refine o_pos ⟨C.1.b1.1, C.1.b1.2.1⟩ (o_bind oc (o_neg (by rw [q1]; exact not_not_intro rfl) ?_))
      unfold b_x_takeWhole_20 b_x_takeWhole_35
      dsimp only
      rw [e5, n_1, nI_add, hi_at]
      rw [q2, q3] at q
      exact o_neg (by decide) q
    · refine ⟨g, FRJ.refl, by rw [q2]; exact e5, e4, fun i => ⟨rfl, rfl, rfl, rfl⟩, fun X q => ?_⟩
      unfold f_x_takeWhole
      rw [e5]
      refine o_pos ⟨C.1.b1.1, C.1.b1.2.1⟩ (o_bind oc (o_pos (show ¬ nI (T j) = nI 45 by (first | (simp (maxSteps := 4000000) (disch := omega) only [n_0, n_1, n_2, n_3, n_4, n_5, n_6, n_7, n_8, n_9, n_10, n_11, n_12, n_13, n_14, n_15, n_16, n_18, n_20, n_24, n_31, n_32, n_34, n_40, n_41, n_44, n_45, n_47, n_48, n_57, n_58, n_59, n_61, n_63, n_64, n_65, n_68, n_90, n_91, n_93, n_95, n_97, n_100, n_122, n_123, n_125, n_128, n_144, n_200, n_255, n_256, n_300, n_400, n_600, n_1536, n_3980, n_4000, n_4001, n_4300, n_65536, l_0, l_1, l_2, l_3, l_4, l_10, l_48, l_63, l_255, l_300, nI_ltI, nI_leI, nI_eq, nI_clamp, nI_add, pk_sub, pk_mul, nI_ne1, ne1_nI, nI_pge, nI_nlt0, nI_l, lN_i, lN_add, lN_mul, lN_sub, pk_lLT, pk_lLE, pk_lEQ, lg_lt, lg_ge, lg_eq0, lg_le, lg_gt, lg_ltn, lg_gen, lg_eq0n, lg_len, lg_gtn, Nat.zero_le, Nat.not_lt_zero, not_false_eq_true, not_true_eq_false, true_and, and_true]; done) | (simp (maxSteps := 4000000) (disch := omega) only [n_0, n_1, n_2, n_3, n_4, n_5, n_6, n_7, n_8, n_9, n_10, n_11, n_12, n_13, n_14, n_15, n_16, n_18, n_20, n_24, n_31, n_32, n_34, n_40, n_41, n_44, n_45, n_47, n_48, n_57, n_58, n_59, n_61, n_63, n_64, n_65, n_68, n_90, n_91, n_93, n_95, n_97, n_100, n_122, n_123, n_125, n_128, n_144, n_200, n_255, n_256, n_300, n_400, n_600, n_1536, n_3980, n_4000, n_4001, n_4300, n_65536, l_0, l_1, l_2, l_3, l_4, l_10, l_48, l_63, l_255, l_300, nI_ltI, nI_leI, nI_eq, nI_clamp, nI_add, pk_sub, pk_mul, nI_ne1, ne1_nI, nI_pge, nI_nlt0, nI_l, lN_i, lN_add, lN_mul, lN_sub, pk_lLT, pk_lLE, pk_lEQ, lg_lt, lg_ge, lg_eq0, lg_le, lg_gt, lg_ltn, lg_gen, lg_eq0n, lg_len, lg_gtn, Nat.zero_le, Nat.not_lt_zero, not_false_eq_true, not_true_eq_false, true_and, and_true]; omega) | omega)) ?_))
      unfold b_x_takeWhole_20 b_x_takeWhole_35
      dsimp only
      rw [e5]
      rw [q2, q3] at q
      exact o_pos rfl q
  obtain ⟨g0, F0, a5, a4, aS, a6⟩ := cl0
  have C0 := C.frj F0
  obtain ⟨b, hb⟩ : ∃ b, b = dE T (n - s) s := ⟨_, rfl⟩
  have d1 := dE_le (T := T) (n - s) s
  rw [← hb] at d1
  obtain ⟨g1, y1, F1, y2, y3, y4⟩ := e_x_dEnd (T := T) (n := n) (x2 := nI j) (x3 := x3) (s := s) (n - s) s 100000 g0 (by omega) (by omega) (Nat.le_refl s) C0 a5
  rw [← hb] at y1 y2
  rw [Nat.sub_self] at y1
  have y1' : b_x_takeWhole_44 100000 1 (nI j) x3 (nI s) (lN 0) g0 = b_x_takeWhole_103 (nI j) x3 (nI s) (lN (dv T s (b - s))) g1 := y1
  -- what the class keeps
  have cl : ∀ X : Option (Int32 × XH), (if 1 ≤ b - s ∧ b - s ≤ 18 then f_x_keep 3 (nI j) (if x3 = 0 then lN (dv T s (b - s)) else -(lN (dv T s (b - s)))) 0 g1 else f_x_keep 1 (nI j) (if x3 = 0 then lN (dv T s (b - s)) else -(lN (dv T s (b - s)))) 0 g1) = X → f_x_takeWhole 1 g = X := by
    intro X q
    refine a6 _ (y1'.trans ?_)
    have e156 : ∀ kd : Int32, b_x_takeWhole_143 (nI j) x3 (lN (dv T s (b - s))) kd g1 = f_x_keep kd (nI j) (if x3 = 0 then lN (dv T s (b - s)) else -(lN (dv T s (b - s)))) 0 g1 := by
      intro kd
      have kp : ∀ (v : Int64), b_x_takeWhole_156 kd (nI j) v g1 = f_x_keep kd (nI j) v 0 g1 := fun v => by
        unfold b_x_takeWhole_156
        cases f_x_keep kd (nI j) v 0 g1 with
        | none => rfl
        | some v => rfl
      unfold b_x_takeWhole_143
      by_cases q0 : x3 = 0
      · rw [if_pos q0, if_pos q0, kp]
      · rw [if_neg q0, if_neg q0, kp]
    unfold b_x_takeWhole_103 b_x_takeWhole_129 b_x_takeWhole_130
    rw [y2, pk_sub d1.1, e156, e156, ← q]
    by_cases c1 : 1 ≤ b - s
    · by_cases c2 : b - s ≤ 18
      · rw [if_pos (show 1 ≤ b - s ∧ b - s ≤ 18 from ⟨c1, c2⟩)]
        exact o_neg (by (first | (simp (maxSteps := 4000000) (disch := omega) only [n_0, n_1, n_2, n_3, n_4, n_5, n_6, n_7, n_8, n_9, n_10, n_11, n_12, n_13, n_14, n_15, n_16, n_18, n_20, n_24, n_31, n_32, n_34, n_40, n_41, n_44, n_45, n_47, n_48, n_57, n_58, n_59, n_61, n_63, n_64, n_65, n_68, n_90, n_91, n_93, n_95, n_97, n_100, n_122, n_123, n_125, n_128, n_144, n_200, n_255, n_256, n_300, n_400, n_600, n_1536, n_3980, n_4000, n_4001, n_4300, n_65536, l_0, l_1, l_2, l_3, l_4, l_10, l_48, l_63, l_255, l_300, nI_ltI, nI_leI, nI_eq, nI_clamp, nI_add, pk_sub, pk_mul, nI_ne1, ne1_nI, nI_pge, nI_nlt0, nI_l, lN_i, lN_add, lN_mul, lN_sub, pk_lLT, pk_lLE, pk_lEQ, lg_lt, lg_ge, lg_eq0, lg_le, lg_gt, lg_ltn, lg_gen, lg_eq0n, lg_len, lg_gtn, Nat.zero_le, Nat.not_lt_zero, not_false_eq_true, not_true_eq_false, true_and, and_true]; done) | (simp (maxSteps := 4000000) (disch := omega) only [n_0, n_1, n_2, n_3, n_4, n_5, n_6, n_7, n_8, n_9, n_10, n_11, n_12, n_13, n_14, n_15, n_16, n_18, n_20, n_24, n_31, n_32, n_34, n_40, n_41, n_44, n_45, n_47, n_48, n_57, n_58, n_59, n_61, n_63, n_64, n_65, n_68, n_90, n_91, n_93, n_95, n_97, n_100, n_122, n_123, n_125, n_128, n_144, n_200, n_255, n_256, n_300, n_400, n_600, n_1536, n_3980, n_4000, n_4001, n_4300, n_65536, l_0, l_1, l_2, l_3, l_4, l_10, l_48, l_63, l_255, l_300, nI_ltI, nI_leI, nI_eq, nI_clamp, nI_add, pk_sub, pk_mul, nI_ne1, ne1_nI, nI_pge, nI_nlt0, nI_l, lN_i, lN_add, lN_mul, lN_sub, pk_lLT, pk_lLE, pk_lEQ, lg_lt, lg_ge, lg_eq0, lg_le, lg_gt, lg_ltn, lg_gen, lg_eq0n, lg_len, lg_gtn, Nat.zero_le, Nat.not_lt_zero, not_false_eq_true, not_true_eq_false, true_and, and_true]; omega) | omega)) (o_neg (by (first | (simp (maxSteps := 4000000) (disch := omega) only [n_0, n_1, n_2, n_3, n_4, n_5, n_6, n_7, n_8, n_9, n_10, n_11, n_12, n_13, n_14, n_15, n_16, n_18, n_20, n_24, n_31, n_32, n_34, n_40, n_41, n_44, n_45, n_47, n_48, n_57, n_58, n_59, n_61, n_63, n_64, n_65, n_68, n_90, n_91, n_93, n_95, n_97, n_100, n_122, n_123, n_125, n_128, n_144, n_200, n_255, n_256, n_300, n_400, n_600, n_1536, n_3980, n_4000, n_4001, n_4300, n_65536, l_0, l_1, l_2, l_3, l_4, l_10, l_48, l_63, l_255, l_300, nI_ltI, nI_leI, nI_eq, nI_clamp, nI_add, pk_sub, pk_mul, nI_ne1, ne1_nI, nI_pge, nI_nlt0, nI_l, lN_i, lN_add, lN_mul, lN_sub, pk_lLT, pk_lLE, pk_lEQ, lg_lt, lg_ge, lg_eq0, lg_le, lg_gt, lg_ltn, lg_gen, lg_eq0n, lg_len, lg_gtn, Nat.zero_le, Nat.not_lt_zero, not_false_eq_true, not_true_eq_false, true_and, and_true]; done) | (simp (maxSteps := 4000000) (disch := omega) only [n_0, n_1, n_2, n_3, n_4, n_5, n_6, n_7, n_8, n_9, n_10, n_11, n_12, n_13, n_14, n_15, n_16, n_18, n_20, n_24, n_31, n_32, n_34, n_40, n_41, n_44, n_45, n_47, n_48, n_57, n_58, n_59, n_61, n_63, n_64, n_65, n_68, n_90, n_91, n_93, n_95, n_97, n_100, n_122, n_123, n_125, n_128, n_144, n_200, n_255, n_256, n_300, n_400, n_600, n_1536, n_3980, n_4000, n_4001, n_4300, n_65536, l_0, l_1, l_2, l_3, l_4, l_10, l_48, l_63, l_255, l_300, nI_ltI, nI_leI, nI_eq, nI_clamp, nI_add, pk_sub, pk_mul, nI_ne1, ne1_nI, nI_pge, nI_nlt0, nI_l, lN_i, lN_add, lN_mul, lN_sub, pk_lLT, pk_lLE, pk_lEQ, lg_lt, lg_ge, lg_eq0, lg_le, lg_gt, lg_ltn, lg_gen, lg_eq0n, lg_len, lg_gtn, Nat.zero_le, Nat.not_lt_zero, not_false_eq_true, not_true_eq_false, true_and, and_true]; omega) | omega)) (o_neg one0 rfl))
      · rw [if_neg (show ¬ (1 ≤ b - s ∧ b - s ≤ 18) from fun z => c2 z.2)]
        exact o_neg (by (first | (simp (maxSteps := 4000000) (disch := omega) only [n_0, n_1, n_2, n_3, n_4, n_5, n_6, n_7, n_8, n_9, n_10, n_11, n_12, n_13, n_14, n_15, n_16, n_18, n_20, n_24, n_31, n_32, n_34, n_40, n_41, n_44, n_45, n_47, n_48, n_57, n_58, n_59, n_61, n_63, n_64, n_65, n_68, n_90, n_91, n_93, n_95, n_97, n_100, n_122, n_123, n_125, n_128, n_144, n_200, n_255, n_256, n_300, n_400, n_600, n_1536, n_3980, n_4000, n_4001, n_4300, n_65536, l_0, l_1, l_2, l_3, l_4, l_10, l_48, l_63, l_255, l_300, nI_ltI, nI_leI, nI_eq, nI_clamp, nI_add, pk_sub, pk_mul, nI_ne1, ne1_nI, nI_pge, nI_nlt0, nI_l, lN_i, lN_add, lN_mul, lN_sub, pk_lLT, pk_lLE, pk_lEQ, lg_lt, lg_ge, lg_eq0, lg_le, lg_gt, lg_ltn, lg_gen, lg_eq0n, lg_len, lg_gtn, Nat.zero_le, Nat.not_lt_zero, not_false_eq_true, not_true_eq_false, true_and, and_true]; done) | (simp (maxSteps := 4000000) (disch := omega) only [n_0, n_1, n_2, n_3, n_4, n_5, n_6, n_7, n_8, n_9, n_10, n_11, n_12, n_13, n_14, n_15, n_16, n_18, n_20, n_24, n_31, n_32, n_34, n_40, n_41, n_44, n_45, n_47, n_48, n_57, n_58, n_59, n_61, n_63, n_64, n_65, n_68, n_90, n_91, n_93, n_95, n_97, n_100, n_122, n_123, n_125, n_128, n_144, n_200, n_255, n_256, n_300, n_400, n_600, n_1536, n_3980, n_4000, n_4001, n_4300, n_65536, l_0, l_1, l_2, l_3, l_4, l_10, l_48, l_63, l_255, l_300, nI_ltI, nI_leI, nI_eq, nI_clamp, nI_add, pk_sub, pk_mul, nI_ne1, ne1_nI, nI_pge, nI_nlt0, nI_l, lN_i, lN_add, lN_mul, lN_sub, pk_lLT, pk_lLE, pk_lEQ, lg_lt, lg_ge, lg_eq0, lg_le, lg_gt, lg_ltn, lg_gen, lg_eq0n, lg_len, lg_gtn, Nat.zero_le, Nat.not_lt_zero, not_false_eq_true, not_true_eq_false, true_and, and_true]; omega) | omega)) (o_pos (by (first | (simp (maxSteps := 4000000) (disch := omega) only [n_0, n_1, n_2, n_3, n_4, n_5, n_6, n_7, n_8, n_9, n_10, n_11, n_12, n_13, n_14, n_15, n_16, n_18, n_20, n_24, n_31, n_32, n_34, n_40, n_41, n_44, n_45, n_47, n_48, n_57, n_58, n_59, n_61, n_63, n_64, n_65, n_68, n_90, n_91, n_93, n_95, n_97, n_100, n_122, n_123, n_125, n_128, n_144, n_200, n_255, n_256, n_300, n_400, n_600, n_1536, n_3980, n_4000, n_4001, n_4300, n_65536, l_0, l_1, l_2, l_3, l_4, l_10, l_48, l_63, l_255, l_300, nI_ltI, nI_leI, nI_eq, nI_clamp, nI_add, pk_sub, pk_mul, nI_ne1, ne1_nI, nI_pge, nI_nlt0, nI_l, lN_i, lN_add, lN_mul, lN_sub, pk_lLT, pk_lLE, pk_lEQ, lg_lt, lg_ge, lg_eq0, lg_le, lg_gt, lg_ltn, lg_gen, lg_eq0n, lg_len, lg_gtn, Nat.zero_le, Nat.not_lt_zero, not_false_eq_true, not_true_eq_false, true_and, and_true]; done) | (simp (maxSteps := 4000000) (disch := omega) only [n_0, n_1, n_2, n_3, n_4, n_5, n_6, n_7, n_8, n_9, n_10, n_11, n_12, n_13, n_14, n_15, n_16, n_18, n_20, n_24, n_31, n_32, n_34, n_40, n_41, n_44, n_45, n_47, n_48, n_57, n_58, n_59, n_61, n_63, n_64, n_65, n_68, n_90, n_91, n_93, n_95, n_97, n_100, n_122, n_123, n_125, n_128, n_144, n_200, n_255, n_256, n_300, n_400, n_600, n_1536, n_3980, n_4000, n_4001, n_4300, n_65536, l_0, l_1, l_2, l_3, l_4, l_10, l_48, l_63, l_255, l_300, nI_ltI, nI_leI, nI_eq, nI_clamp, nI_add, pk_sub, pk_mul, nI_ne1, ne1_nI, nI_pge, nI_nlt0, nI_l, lN_i, lN_add, lN_mul, lN_sub, pk_lLT, pk_lLE, pk_lEQ, lg_lt, lg_ge, lg_eq0, lg_le, lg_gt, lg_ltn, lg_gen, lg_eq0n, lg_len, lg_gtn, Nat.zero_le, Nat.not_lt_zero, not_false_eq_true, not_true_eq_false, true_and, and_true]; omega) | omega)) (o_pos rfl rfl))
    · rw [if_neg (show ¬ (1 ≤ b - s ∧ b - s ≤ 18) from fun z => c1 z.1)]
      exact o_pos (by (first | (simp (maxSteps := 4000000) (disch := omega) only [n_0, n_1, n_2, n_3, n_4, n_5, n_6, n_7, n_8, n_9, n_10, n_11, n_12, n_13, n_14, n_15, n_16, n_18, n_20, n_24, n_31, n_32, n_34, n_40, n_41, n_44, n_45, n_47, n_48, n_57, n_58, n_59, n_61, n_63, n_64, n_65, n_68, n_90, n_91, n_93, n_95, n_97, n_100, n_122, n_123, n_125, n_128, n_144, n_200, n_255, n_256, n_300, n_400, n_600, n_1536, n_3980, n_4000, n_4001, n_4300, n_65536, l_0, l_1, l_2, l_3, l_4, l_10, l_48, l_63, l_255, l_300, nI_ltI, nI_leI, nI_eq, nI_clamp, nI_add, pk_sub, pk_mul, nI_ne1, ne1_nI, nI_pge, nI_nlt0, nI_l, lN_i, lN_add, lN_mul, lN_sub, pk_lLT, pk_lLE, pk_lEQ, lg_lt, lg_ge, lg_eq0, lg_le, lg_gt, lg_ltn, lg_gen, lg_eq0n, lg_len, lg_gtn, Nat.zero_le, Nat.not_lt_zero, not_false_eq_true, not_true_eq_false, true_and, and_true]; done) | (simp (maxSteps := 4000000) (disch := omega) only [n_0, n_1, n_2, n_3, n_4, n_5, n_6, n_7, n_8, n_9, n_10, n_11, n_12, n_13, n_14, n_15, n_16, n_18, n_20, n_24, n_31, n_32, n_34, n_40, n_41, n_44, n_45, n_47, n_48, n_57, n_58, n_59, n_61, n_63, n_64, n_65, n_68, n_90, n_91, n_93, n_95, n_97, n_100, n_122, n_123, n_125, n_128, n_144, n_200, n_255, n_256, n_300, n_400, n_600, n_1536, n_3980, n_4000, n_4001, n_4300, n_65536, l_0, l_1, l_2, l_3, l_4, l_10, l_48, l_63, l_255, l_300, nI_ltI, nI_leI, nI_eq, nI_clamp, nI_add, pk_sub, pk_mul, nI_ne1, ne1_nI, nI_pge, nI_nlt0, nI_l, lN_i, lN_add, lN_mul, lN_sub, pk_lLT, pk_lLE, pk_lEQ, lg_lt, lg_ge, lg_eq0, lg_le, lg_gt, lg_ltn, lg_gen, lg_eq0n, lg_len, lg_gtn, Nat.zero_le, Nat.not_lt_zero, not_false_eq_true, not_true_eq_false, true_and, and_true]; omega) | omega)) (o_pos rfl rfl)
  have n45 : nI (T j) = 45 ↔ T j = 45 := nI_eq (b := 45) (by omega) (by decide)
  have mone : ∀ X : Option (Int32 × XH), (if 1 ≤ b - s then (if b - s ≤ 18 then (Option.bind (f_m_lexeme 3 (nI j) (nI b) 0 h) fun r15 => (some (nI b, r15.2))) else (Option.bind (f_m_lexeme 1 (nI j) (nI b) 0 h) fun r15 => (some (nI b, r15.2)))) else (Option.bind (f_m_lexeme 1 (nI j) (nI (j + 1)) (nI (T j)) h) fun r1 => (some (nI (j + 1), r1.2)))) = X → f_m_one (nI j) h = X := by
    intro X q
    rw [← q]
    have e130 : ∀ (e : Nat), b - j = (b - s) + e → ∀ y2 : Int32, y2 = nI e → b_m_one_130 (nI j) (nI b) (nI (b - j)) y2 h = (if b - s ≤ 18 then (Option.bind (f_m_lexeme 3 (nI j) (nI b) 0 h) fun r15 => (some (nI b, r15.2))) else (Option.bind (f_m_lexeme 1 (nI j) (nI b) 0 h) fun r15 => (some (nI b, r15.2)))) := by
      intro e he y2 hy
      unfold b_m_one_130 b_m_one_141
      rw [hy, pk_sub (by omega), show b - j - e = b - s by omega]
      by_cases c2 : b - s ≤ 18
      · rw [if_pos c2]
        exact o_pos (by (first | (simp (maxSteps := 4000000) (disch := omega) only [n_0, n_1, n_2, n_3, n_4, n_5, n_6, n_7, n_8, n_9, n_10, n_11, n_12, n_13, n_14, n_15, n_16, n_18, n_20, n_24, n_31, n_32, n_34, n_40, n_41, n_44, n_45, n_47, n_48, n_57, n_58, n_59, n_61, n_63, n_64, n_65, n_68, n_90, n_91, n_93, n_95, n_97, n_100, n_122, n_123, n_125, n_128, n_144, n_200, n_255, n_256, n_300, n_400, n_600, n_1536, n_3980, n_4000, n_4001, n_4300, n_65536, l_0, l_1, l_2, l_3, l_4, l_10, l_48, l_63, l_255, l_300, nI_ltI, nI_leI, nI_eq, nI_clamp, nI_add, pk_sub, pk_mul, nI_ne1, ne1_nI, nI_pge, nI_nlt0, nI_l, lN_i, lN_add, lN_mul, lN_sub, pk_lLT, pk_lLE, pk_lEQ, lg_lt, lg_ge, lg_eq0, lg_le, lg_gt, lg_ltn, lg_gen, lg_eq0n, lg_len, lg_gtn, Nat.zero_le, Nat.not_lt_zero, not_false_eq_true, not_true_eq_false, true_and, and_true]; done) | (simp (maxSteps := 4000000) (disch := omega) only [n_0, n_1, n_2, n_3, n_4, n_5, n_6, n_7, n_8, n_9, n_10, n_11, n_12, n_13, n_14, n_15, n_16, n_18, n_20, n_24, n_31, n_32, n_34, n_40, n_41, n_44, n_45, n_47, n_48, n_57, n_58, n_59, n_61, n_63, n_64, n_65, n_68, n_90, n_91, n_93, n_95, n_97, n_100, n_122, n_123, n_125, n_128, n_144, n_200, n_255, n_256, n_300, n_400, n_600, n_1536, n_3980, n_4000, n_4001, n_4300, n_65536, l_0, l_1, l_2, l_3, l_4, l_10, l_48, l_63, l_255, l_300, nI_ltI, nI_leI, nI_eq, nI_clamp, nI_add, pk_sub, pk_mul, nI_ne1, ne1_nI, nI_pge, nI_nlt0, nI_l, lN_i, lN_add, lN_mul, lN_sub, pk_lLT, pk_lLE, pk_lEQ, lg_lt, lg_ge, lg_eq0, lg_le, lg_gt, lg_ltn, lg_gen, lg_eq0n, lg_len, lg_gtn, Nat.zero_le, Nat.not_lt_zero, not_false_eq_true, not_true_eq_false, true_and, and_true]; omega) | omega)) rfl
      · rw [if_neg c2]
        exact o_neg (by (first | (simp (maxSteps := 4000000) (disch := omega) only [n_0, n_1, n_2, n_3, n_4, n_5, n_6, n_7, n_8, n_9, n_10, n_11, n_12, n_13, n_14, n_15, n_16, n_18, n_20, n_24, n_31, n_32, n_34, n_40, n_41, n_44, n_45, n_47, n_48, n_57, n_58, n_59, n_61, n_63, n_64, n_65, n_68, n_90, n_91, n_93, n_95, n_97, n_100, n_122, n_123, n_125, n_128, n_144, n_200, n_255, n_256, n_300, n_400, n_600, n_1536, n_3980, n_4000, n_4001, n_4300, n_65536, l_0, l_1, l_2, l_3, l_4, l_10, l_48, l_63, l_255, l_300, nI_ltI, nI_leI, nI_eq, nI_clamp, nI_add, pk_sub, pk_mul, nI_ne1, ne1_nI, nI_pge, nI_nlt0, nI_l, lN_i, lN_add, lN_mul, lN_sub, pk_lLT, pk_lLE, pk_lEQ, lg_lt, lg_ge, lg_eq0, lg_le, lg_gt, lg_ltn, lg_gen, lg_eq0n, lg_len, lg_gtn, Nat.zero_le, Nat.not_lt_zero, not_false_eq_true, not_true_eq_false, true_and, and_true]; done) | (simp (maxSteps := 4000000) (disch := omega) only [n_0, n_1, n_2, n_3, n_4, n_5, n_6, n_7, n_8, n_9, n_10, n_11, n_12, n_13, n_14, n_15, n_16, n_18, n_20, n_24, n_31, n_32, n_34, n_40, n_41, n_44, n_45, n_47, n_48, n_57, n_58, n_59, n_61, n_63, n_64, n_65, n_68, n_90, n_91, n_93, n_95, n_97, n_100, n_122, n_123, n_125, n_128, n_144, n_200, n_255, n_256, n_300, n_400, n_600, n_1536, n_3980, n_4000, n_4001, n_4300, n_65536, l_0, l_1, l_2, l_3, l_4, l_10, l_48, l_63, l_255, l_300, nI_ltI, nI_leI, nI_eq, nI_clamp, nI_add, pk_sub, pk_mul, nI_ne1, ne1_nI, nI_pge, nI_nlt0, nI_l, lN_i, lN_add, lN_mul, lN_sub, pk_lLT, pk_lLE, pk_lEQ, lg_lt, lg_ge, lg_eq0, lg_le, lg_gt, lg_ltn, lg_gen, lg_eq0n, lg_len, lg_gtn, Nat.zero_le, Nat.not_lt_zero, not_false_eq_true, not_true_eq_false, true_and, and_true]; omega) | omega)) rfl
    unfold f_m_one
    rw [nI_clamp (show j < 2 ^ 31 by omega), M.2.2.2 j jn, nI_1]
    refine o_pos (by (first | (simp (maxSteps := 4000000) (disch := omega) only [n_0, n_1, n_2, n_3, n_4, n_5, n_6, n_7, n_8, n_9, n_10, n_11, n_12, n_13, n_14, n_15, n_16, n_18, n_20, n_24, n_31, n_32, n_34, n_40, n_41, n_44, n_45, n_47, n_48, n_57, n_58, n_59, n_61, n_63, n_64, n_65, n_68, n_90, n_91, n_93, n_95, n_97, n_100, n_122, n_123, n_125, n_128, n_144, n_200, n_255, n_256, n_300, n_400, n_600, n_1536, n_3980, n_4000, n_4001, n_4300, n_65536, l_0, l_1, l_2, l_3, l_4, l_10, l_48, l_63, l_255, l_300, nI_ltI, nI_leI, nI_eq, nI_clamp, nI_add, pk_sub, pk_mul, nI_ne1, ne1_nI, nI_pge, nI_nlt0, nI_l, lN_i, lN_add, lN_mul, lN_sub, pk_lLT, pk_lLE, pk_lEQ, lg_lt, lg_ge, lg_eq0, lg_le, lg_gt, lg_ltn, lg_gen, lg_eq0n, lg_len, lg_gtn, Nat.zero_le, Nat.not_lt_zero, not_false_eq_true, not_true_eq_false, true_and, and_true]; done) | (simp (maxSteps := 4000000) (disch := omega) only [n_0, n_1, n_2, n_3, n_4, n_5, n_6, n_7, n_8, n_9, n_10, n_11, n_12, n_13, n_14, n_15, n_16, n_18, n_20, n_24, n_31, n_32, n_34, n_40, n_41, n_44, n_45, n_47, n_48, n_57, n_58, n_59, n_61, n_63, n_64, n_65, n_68, n_90, n_91, n_93, n_95, n_97, n_100, n_122, n_123, n_125, n_128, n_144, n_200, n_255, n_256, n_300, n_400, n_600, n_1536, n_3980, n_4000, n_4001, n_4300, n_65536, l_0, l_1, l_2, l_3, l_4, l_10, l_48, l_63, l_255, l_300, nI_ltI, nI_leI, nI_eq, nI_clamp, nI_add, pk_sub, pk_mul, nI_ne1, ne1_nI, nI_pge, nI_nlt0, nI_l, lN_i, lN_add, lN_mul, lN_sub, pk_lLT, pk_lLE, pk_lEQ, lg_lt, lg_ge, lg_eq0, lg_le, lg_gt, lg_ltn, lg_gen, lg_eq0n, lg_len, lg_gtn, Nat.zero_le, Nat.not_lt_zero, not_false_eq_true, not_true_eq_false, true_and, and_true]; omega) | omega)) ?_
    rcases e_m_isLetter (h := h) lT with ⟨q1, q2⟩ | ⟨q1, q2⟩
    · exact absurd q1 nlt
    · refine o_bind q2 (o_pos rfl ?_)
      rcases hs with ⟨h1, h2, h3⟩ | ⟨h1, h2, h3⟩
      · -- a minus
        rcases e_m_isDigit (h := h) lT with ⟨p1, p2⟩ | ⟨p1, p2⟩
        · exfalso
          unfold isDg at p1
          omega
        · refine o_bind p2 (o_neg (not_not_intro rfl) (o_neg (not_not_intro (n45.mpr h1)) ?_))
          by_cases jn1 : j + 1 < n
          · have l1 := M.2.2.1 (j + 1)
            rcases e_m_isDigit (h := h) l1 with ⟨r1, r2⟩ | ⟨r1, r2⟩
            · have bs : 1 ≤ b - s := by
                rw [hb, h2, show n - (j + 1) = (n - (j + 2)) + 1 by omega, dE, if_pos (dgB_iff.mpr r1)]
                have := (dE_le (T := T) (n - (j + 2)) (j + 1 + 1)).1
                omega
              refine o_bind (e_m_signAt (k := j + 1) M jn1) (o_bind r2 (o_neg one0 ?_))
              rw [if_pos bs]
              dsimp only
              rw [e_m_dEnd M (n - (j + 1)) (j + 1) 100000 (by omega) (by omega) (by omega), ← h2, ← hb]
              exact o_neg (not_not_intro (n45.mpr h1)) (e130 1 (by omega) 1 rfl)
            · have bs : ¬ 1 ≤ b - s := by
                rw [hb, h2, show n - (j + 1) = (n - (j + 2)) + 1 by omega, dE, if_neg (fun z => r1 (dgB_iff.mp z))]
                omega
              refine o_bind (e_m_signAt (k := j + 1) M jn1) (o_bind r2 (o_pos rfl ?_))
              rw [if_neg bs, h1]
              rfl
          · have bs : ¬ 1 ≤ b - s := by omega
            refine o_bind (e_m_signAtN (k := j + 1) M (by omega) (by omega)) (o_bind e_m_isDigitN (o_pos rfl ?_))
            rw [if_neg bs, h1]
            rfl
      · rcases e_m_isDigit (h := h) lT with ⟨p1, p2⟩ | ⟨p1, p2⟩
        · have eb : dE T (n - s) s = dE T (n - (j + 1)) (j + 1) := by
            rw [h2, show n - j = (n - (j + 1)) + 1 by omega, dE, if_pos (dgB_iff.mpr p1)]
          have bs : 1 ≤ b - s := by
            have := (dE_le (T := T) (n - (j + 1)) (j + 1)).1
            omega
          refine o_bind p2 (o_pos one0 ?_)
          rw [if_pos bs]
          dsimp only
          rw [e_m_dEnd M (n - (j + 1)) (j + 1) 100000 (by omega) (by omega) (by omega), ← eb, ← hb]
          exact o_pos (fun z => h1 (n45.mp z)) (e130 0 (by omega) 0 rfl)
        · exact absurd (dg.resolve_right h1) p1
  -- joined
  obtain ⟨hd, hhd⟩ : ∃ hd : Int64, hd = (if x3 = 0 then lN (dv T s (b - s)) else -(lN (dv T s (b - s)))) := ⟨_, rfl⟩
  rw [← hhd] at cl
  have fin : ∀ (kd mk ow : Int32) (e : Nat), f_x_takeWhole 1 g = f_x_keep kd (nI j) hd 0 g1 → (∀ p, f_m_lexeme mk (nI j) (nI e) ow h = some ((), p) → f_m_one (nI j) h = some (nI e, p)) → ((kd = 1 ∧ mk = 1) ∨ (kd = 3 ∧ mk = 3 ∧ e = b)) → (kd = 1 ∨ e = b) → j < e ∧ e ≤ n → (∀ u p : XH, hi u 8 c = kd → hj u 10 c = hd → hi p 1266 c = mk → hi u 9 c = nI j → hi p 1267 c = nI j → hi p 1268 c = nI e → TK T n u p c) → b = e ∨ kd = 1 → hi g1 7 5 = nI e → STEP T n g h c j (f_x_takeWhole 1 g) (fun K => b_m_cut_106 K (nI j) h) := by
    intro kd mk ow e ck mk1 hkd _ je tk _ e75'
    obtain ⟨u, x1, x2, x3', x4, ⟨x5, x6, x7, x8⟩, x9⟩ := e_x_keep (g := g1) (c := c) (x := kd) (y := nI j) (p := hd) (q := 0) (by rw [y3]; exact a4) c4
    obtain ⟨p, z1, z2, z3, ⟨z4, z5, z6, z7⟩, z8⟩ := e_m_lexeme (h := h) (c := c) (x0 := mk) (x1 := nI j) (x2 := nI e) (x3 := ow) e12 c4
    refine ⟨kd, u, p, e, ck.trans x1, (F0.trans F1).trans x2, x3', by rw [x4]; exact e75', fun i hi' => ?_, fun K => ?_, z2, z3, z8, tk u p x5 x7 z4 x6 z5 z6, x5, Or.inr (Or.inr je)⟩
    · obtain ⟨q1, q2, q3, q4⟩ := x9 i hi'
      obtain ⟨b1, b2, b3, b4⟩ := y4 i
      obtain ⟨c1, c2, c3, c4'⟩ := aS i
      exact ⟨(q1.trans b1).trans c1, (q2.trans b2).trans c2, (q3.trans b3).trans c3, (q4.trans b4).trans c4'⟩
    · rcases hkd with ⟨q1, q2⟩ | ⟨q1, q2, -⟩
      · rw [if_pos (Or.inr q1)]
        exact m106 M jn (mk1 p z1) z3 c4 z4 (Or.inl ⟨q2, rfl⟩)
      · rw [if_neg (by rw [q1]; decide)]
        exact m106 M jn (mk1 p z1) z3 c4 z4 (Or.inr ⟨by rw [q2]; decide, rfl⟩)
  by_cases c1 : 1 ≤ b - s
  · by_cases c2 : b - s ≤ 18
    · refine fin 3 3 0 b (cl _ (by rw [if_pos ⟨c1, c2⟩])) (fun p z => mone _ (by rw [if_pos c1, if_pos c2]; exact o_bind z rfl)) (Or.inr ⟨rfl, rfl, rfl⟩) (Or.inr rfl) ⟨by omega, by omega⟩ (fun u p a1 a2 a3 a4 a5 a6 => ⟨j, b, by omega, by omega, a4, a5, a6, Or.inr (Or.inr (Or.inr (Or.inl ⟨a1, a3, ?_⟩)))⟩) (Or.inl rfl) y2
      rcases hs with ⟨h1, h2, h3⟩ | ⟨h1, h2, h3⟩
      · refine Or.inl ⟨h1, by omega, by omega, fun k q1 q2 => d1.2.2 k (by omega) q2, ?_⟩
        rw [a2, hhd, if_neg (by rw [h3]; decide), h2, show b - (j + 1) = b - j - 1 by omega]
      · refine Or.inr ⟨h1, by omega, by omega, fun k q1 q2 => d1.2.2 k (by omega) q2, ?_⟩
        rw [a2, hhd, if_pos h3, h2]
    · exact fin 1 1 0 b (cl _ (by rw [if_neg (fun z => c2 z.2)])) (fun p z => mone _ (by rw [if_pos c1, if_neg c2]; exact o_bind z rfl)) (Or.inl ⟨rfl, rfl⟩) (Or.inl rfl) ⟨by omega, by omega⟩ (fun u p a1 a2 a3 a4 a5 a6 => ⟨j, b, by omega, by omega, a4, a5, a6, Or.inr (Or.inl ⟨a1, a3⟩)⟩) (Or.inr rfl) y2
  · have bj : b = j + 1 := by
      rcases hs with ⟨h1, h2, h3⟩ | ⟨h1, h2, h3⟩
      · omega
      · exfalso
        have p1 := dg.resolve_right h1
        have : 1 ≤ b - s := by
          rw [hb, h2, show n - j = (n - (j + 1)) + 1 by omega, dE, if_pos (dgB_iff.mpr p1)]
          have := (dE_le (T := T) (n - (j + 1)) (j + 1)).1
          omega
        exact c1 this
    exact fin 1 1 (nI (T j)) (j + 1) (cl _ (by rw [if_neg (fun z => c1 z.1)])) (fun p z => mone _ (by rw [if_neg c1]; exact o_bind z rfl)) (Or.inl ⟨rfl, rfl⟩) (Or.inl rfl) ⟨by omega, by omega⟩ (fun u p a1 a2 a3 a4 a5 a6 => ⟨j, j + 1, by omega, by omega, a4, a5, a6, Or.inr (Or.inl ⟨a1, a3⟩)⟩) (Or.inr rfl) (by rw [y2, bj])
end One
