/-! The builder: values looked at -/

/-- what the model holds is as it was, but for its word of a throw and the counts of tape and values -/
def MSm (h g : XH) : Prop := (∀ a, 1263 ≤ a → a ≤ 1315 → hi g a = hi h a) ∧ (∀ a, a < 1316 → hj g a = hj h a) ∧ ∀ k, k ≠ 0 → k ≠ 2 → k ≠ 55 → hi g 1262 k = hi h 1262 k
section Vals
variable {h g : XH} {S t : Nat} {sg : SGT} {sd : Nat → Int64}
theorem MSm.ms (Q : MSm h g) (M : MS h sg sd) : MS g sg sd := M.cg (fun a h1 h2 => Q.1 a h1 (by omega)) (Q.2.1 _ (by decide)) ⟨Q.2.2 _ (by decide) (by decide) (by decide), Q.2.2 _ (by decide) (by decide) (by decide), Q.2.2 _ (by decide) (by decide) (by decide), Q.2.2 _ (by decide) (by decide) (by decide)⟩
theorem MSm.si {k : Nat} {v : Int32} (Q : MSm h g) (hk' : k = 0 ∨ k = 2 ∨ k = 55) : MSm h (hsi g 1262 k v) := ⟨fun a h1 h2 => by rw [hi_hsi_ne (by omega)]; exact Q.1 a h1 h2, Q.2.1, fun j h1 h2 h3 => by rw [hi_nk (by omega)]; exact Q.2.2 j h1 h2 h3⟩
/-- a struct's values, one struct of them in the model -/
theorem e_m_areOf {b : Nat} (M : MS g sg sd) (W : WF sg sd) (ht : t < sg 0 0) (hb : b + sg 7 t ≤ 600) : ∃ r : Int32, (r = 0 ∨ r = 1) ∧ (r = 1 ↔ ∀ l, l < sg 7 t → vV (sg 8 (128 * t + l)) (hj g 1298 (b + l))) ∧ f_m_areOfStruct (nI t) (nI b) g = some (r, g) := by
  have w := W.2.1 t ht
  have w0 := W.1
  have cnt := w.1
  obtain ⟨⟨m1, m2, m3, m4⟩, -, m5⟩ := M.2.1 t ht
  have lp : ∀ q l fuel, l + q = sg 7 t → q < fuel → ∃ r : Int32, (r = 0 ∨ r = 1) ∧ (r = 1 ↔ ∀ l', l ≤ l' → l' < sg 7 t → vV (sg 8 (128 * t + l')) (hj g 1298 (b + l'))) ∧ b_m_areOfStruct_2 fuel (nI t) (nI b) (nI l) g = some (r, g) := by
    intro q
    induction q with
    | zero =>
      intro l fuel e hf
      obtain ⟨f, rfl, -⟩ := fuel_pos hf
      refine ⟨1, Or.inr rfl, ⟨fun _ l' h1 h2 => by omega, fun _ => rfl⟩, ?_⟩
      show s_m_areOfStruct_2 (b_m_areOfStruct_2 f) _ _ _ _ = _
      unfold s_m_areOfStruct_2
      rw [nI_clamp (show t < 2 ^ 31 by omega), m4]
      exact o_pos (by (first | (simp (maxSteps := 4000000) (disch := omega) only [n_0, n_1, n_2, n_3, n_4, n_5, n_6, n_7, n_8, n_9, n_10, n_11, n_12, n_13, n_14, n_15, n_16, n_18, n_20, n_24, n_31, n_32, n_34, n_40, n_41, n_44, n_45, n_47, n_48, n_57, n_58, n_59, n_61, n_63, n_64, n_65, n_68, n_90, n_91, n_93, n_95, n_97, n_100, n_122, n_123, n_125, n_128, n_144, n_200, n_255, n_256, n_300, n_400, n_600, n_1536, n_3980, n_4000, n_4001, n_4300, n_65536, l_0, l_1, l_2, l_3, l_4, l_10, l_48, l_63, l_255, l_300, nI_ltI, nI_leI, nI_eq, nI_clamp, nI_add, pk_sub, pk_mul, nI_ne1, ne1_nI, nI_pge, nI_nlt0, nI_l, lN_i, lN_add, lN_mul, lN_sub, pk_lLT, pk_lLE, pk_lEQ, lg_lt, lg_ge, lg_eq0, lg_le, lg_gt, lg_ltn, lg_gen, lg_eq0n, lg_len, lg_gtn, Nat.zero_le, Nat.not_lt_zero, not_false_eq_true, not_true_eq_false, true_and, and_true]; done) | (simp (maxSteps := 4000000) (disch := omega) only [n_0, n_1, n_2, n_3, n_4, n_5, n_6, n_7, n_8, n_9, n_10, n_11, n_12, n_13, n_14, n_15, n_16, n_18, n_20, n_24, n_31, n_32, n_34, n_40, n_41, n_44, n_45, n_47, n_48, n_57, n_58, n_59, n_61, n_63, n_64, n_65, n_68, n_90, n_91, n_93, n_95, n_97, n_100, n_122, n_123, n_125, n_128, n_144, n_200, n_255, n_256, n_300, n_400, n_600, n_1536, n_3980, n_4000, n_4001, n_4300, n_65536, l_0, l_1, l_2, l_3, l_4, l_10, l_48, l_63, l_255, l_300, nI_ltI, nI_leI, nI_eq, nI_clamp, nI_add, pk_sub, pk_mul, nI_ne1, ne1_nI, nI_pge, nI_nlt0, nI_l, lN_i, lN_add, lN_mul, lN_sub, pk_lLT, pk_lLE, pk_lEQ, lg_lt, lg_ge, lg_eq0, lg_le, lg_gt, lg_ltn, lg_gen, lg_eq0n, lg_len, lg_gtn, Nat.zero_le, Nat.not_lt_zero, not_false_eq_true, not_true_eq_false, true_and, and_true]; omega) | omega)) (o_pos (by (first | (simp (maxSteps := 4000000) (disch := omega) only [n_0, n_1, n_2, n_3, n_4, n_5, n_6, n_7, n_8, n_9, n_10, n_11, n_12, n_13, n_14, n_15, n_16, n_18, n_20, n_24, n_31, n_32, n_34, n_40, n_41, n_44, n_45, n_47, n_48, n_57, n_58, n_59, n_61, n_63, n_64, n_65, n_68, n_90, n_91, n_93, n_95, n_97, n_100, n_122, n_123, n_125, n_128, n_144, n_200, n_255, n_256, n_300, n_400, n_600, n_1536, n_3980, n_4000, n_4001, n_4300, n_65536, l_0, l_1, l_2, l_3, l_4, l_10, l_48, l_63, l_255, l_300, nI_ltI, nI_leI, nI_eq, nI_clamp, nI_add, pk_sub, pk_mul, nI_ne1, ne1_nI, nI_pge, nI_nlt0, nI_l, lN_i, lN_add, lN_mul, lN_sub, pk_lLT, pk_lLE, pk_lEQ, lg_lt, lg_ge, lg_eq0, lg_le, lg_gt, lg_ltn, lg_gen, lg_eq0n, lg_len, lg_gtn, Nat.zero_le, Nat.not_lt_zero, not_false_eq_true, not_true_eq_false, true_and, and_true]; done) | (simp (maxSteps := 4000000) (disch := omega) only [n_0, n_1, n_2, n_3, n_4, n_5, n_6, n_7, n_8, n_9, n_10, n_11, n_12, n_13, n_14, n_15, n_16, n_18, n_20, n_24, n_31, n_32, n_34, n_40, n_41, n_44, n_45, n_47, n_48, n_57, n_58, n_59, n_61, n_63, n_64, n_65, n_68, n_90, n_91, n_93, n_95, n_97, n_100, n_122, n_123, n_125, n_128, n_144, n_200, n_255, n_256, n_300, n_400, n_600, n_1536, n_3980, n_4000, n_4001, n_4300, n_65536, l_0, l_1, l_2, l_3, l_4, l_10, l_48, l_63, l_255, l_300, nI_ltI, nI_leI, nI_eq, nI_clamp, nI_add, pk_sub, pk_mul, nI_ne1, ne1_nI, nI_pge, nI_nlt0, nI_l, lN_i, lN_add, lN_mul, lN_sub, pk_lLT, pk_lLE, pk_lEQ, lg_lt, lg_ge, lg_eq0, lg_le, lg_gt, lg_ltn, lg_gen, lg_eq0n, lg_len, lg_gtn, Nat.zero_le, Nat.not_lt_zero, not_false_eq_true, not_true_eq_false, true_and, and_true]; omega) | omega)) rfl)
    | succ q ih =>
      intro l fuel e hf
      obtain ⟨f, rfl, -⟩ := fuel_pos hf
      have lf := w.2.2.1 l (by omega)
      obtain ⟨rv, r1, r2, r3⟩ := e_m_isValue (h := g) (v := hj g 1298 (b + l)) lf.1
      have st : ∀ X : Option (Int32 × XH), (if ¬ rv = 0 then b_m_areOfStruct_2 f (nI t) (nI b) (nI (l + 1)) g else some (0, g)) = X → b_m_areOfStruct_2 (f + 1) (nI t) (nI b) (nI l) g = X := by
        intro X z
        show s_m_areOfStruct_2 (b_m_areOfStruct_2 f) _ _ _ _ = _
        unfold s_m_areOfStruct_2
        rw [nI_clamp (show t < 2 ^ 31 by omega), m4, n_128, pk_mul, nI_add, nI_clamp (show 128 * t + l < 2 ^ 31 by omega), (m5 l (by omega)).1, nI_add, nI_clamp (show b + l < 2 ^ 31 by omega), n_1, nI_add]
        exact o_pos (by (first | (simp (maxSteps := 4000000) (disch := omega) only [n_0, n_1, n_2, n_3, n_4, n_5, n_6, n_7, n_8, n_9, n_10, n_11, n_12, n_13, n_14, n_15, n_16, n_18, n_20, n_24, n_31, n_32, n_34, n_40, n_41, n_44, n_45, n_47, n_48, n_57, n_58, n_59, n_61, n_63, n_64, n_65, n_68, n_90, n_91, n_93, n_95, n_97, n_100, n_122, n_123, n_125, n_128, n_144, n_200, n_255, n_256, n_300, n_400, n_600, n_1536, n_3980, n_4000, n_4001, n_4300, n_65536, l_0, l_1, l_2, l_3, l_4, l_10, l_48, l_63, l_255, l_300, nI_ltI, nI_leI, nI_eq, nI_clamp, nI_add, pk_sub, pk_mul, nI_ne1, ne1_nI, nI_pge, nI_nlt0, nI_l, lN_i, lN_add, lN_mul, lN_sub, pk_lLT, pk_lLE, pk_lEQ, lg_lt, lg_ge, lg_eq0, lg_le, lg_gt, lg_ltn, lg_gen, lg_eq0n, lg_len, lg_gtn, Nat.zero_le, Nat.not_lt_zero, not_false_eq_true, not_true_eq_false, true_and, and_true]; done) | (simp (maxSteps := 4000000) (disch := omega) only [n_0, n_1, n_2, n_3, n_4, n_5, n_6, n_7, n_8, n_9, n_10, n_11, n_12, n_13, n_14, n_15, n_16, n_18, n_20, n_24, n_31, n_32, n_34, n_40, n_41, n_44, n_45, n_47, n_48, n_57, n_58, n_59, n_61, n_63, n_64, n_65, n_68, n_90, n_91, n_93, n_95, n_97, n_100, n_122, n_123, n_125, n_128, n_144, n_200, n_255, n_256, n_300, n_400, n_600, n_1536, n_3980, n_4000, n_4001, n_4300, n_65536, l_0, l_1, l_2, l_3, l_4, l_10, l_48, l_63, l_255, l_300, nI_ltI, nI_leI, nI_eq, nI_clamp, nI_add, pk_sub, pk_mul, nI_ne1, ne1_nI, nI_pge, nI_nlt0, nI_l, lN_i, lN_add, lN_mul, lN_sub, pk_lLT, pk_lLE, pk_lEQ, lg_lt, lg_ge, lg_eq0, lg_le, lg_gt, lg_ltn, lg_gen, lg_eq0n, lg_len, lg_gtn, Nat.zero_le, Nat.not_lt_zero, not_false_eq_true, not_true_eq_false, true_and, and_true]; omega) | omega)) (o_neg (by (first | (simp (maxSteps := 4000000) (disch := omega) only [n_0, n_1, n_2, n_3, n_4, n_5, n_6, n_7, n_8, n_9, n_10, n_11, n_12, n_13, n_14, n_15, n_16, n_18, n_20, n_24, n_31, n_32, n_34, n_40, n_41, n_44, n_45, n_47, n_48, n_57, n_58, n_59, n_61, n_63, n_64, n_65, n_68, n_90, n_91, n_93, n_95, n_97, n_100, n_122, n_123, n_125, n_128, n_144, n_200, n_255, n_256, n_300, n_400, n_600, n_1536, n_3980, n_4000, n_4001, n_4300, n_65536, l_0, l_1, l_2, l_3, l_4, l_10, l_48, l_63, l_255, l_300, nI_ltI, nI_leI, nI_eq, nI_clamp, nI_add, pk_sub, pk_mul, nI_ne1, ne1_nI, nI_pge, nI_nlt0, nI_l, lN_i, lN_add, lN_mul, lN_sub, pk_lLT, pk_lLE, pk_lEQ, lg_lt, lg_ge, lg_eq0, lg_le, lg_gt, lg_ltn, lg_gen, lg_eq0n, lg_len, lg_gtn, Nat.zero_le, Nat.not_lt_zero, not_false_eq_true, not_true_eq_false, true_and, and_true]; done) | (simp (maxSteps := 4000000) (disch := omega) only [n_0, n_1, n_2, n_3, n_4, n_5, n_6, n_7, n_8, n_9, n_10, n_11, n_12, n_13, n_14, n_15, n_16, n_18, n_20, n_24, n_31, n_32, n_34, n_40, n_41, n_44, n_45, n_47, n_48, n_57, n_58, n_59, n_61, n_63, n_64, n_65, n_68, n_90, n_91, n_93, n_95, n_97, n_100, n_122, n_123, n_125, n_128, n_144, n_200, n_255, n_256, n_300, n_400, n_600, n_1536, n_3980, n_4000, n_4001, n_4300, n_65536, l_0, l_1, l_2, l_3, l_4, l_10, l_48, l_63, l_255, l_300, nI_ltI, nI_leI, nI_eq, nI_clamp, nI_add, pk_sub, pk_mul, nI_ne1, ne1_nI, nI_pge, nI_nlt0, nI_l, lN_i, lN_add, lN_mul, lN_sub, pk_lLT, pk_lLE, pk_lEQ, lg_lt, lg_ge, lg_eq0, lg_le, lg_gt, lg_ltn, lg_gen, lg_eq0n, lg_len, lg_gtn, Nat.zero_le, Nat.not_lt_zero, not_false_eq_true, not_true_eq_false, true_and, and_true]; omega) | omega)) (o_pos (by (first | (simp (maxSteps := 4000000) (disch := omega) only [n_0, n_1, n_2, n_3, n_4, n_5, n_6, n_7, n_8, n_9, n_10, n_11, n_12, n_13, n_14, n_15, n_16, n_18, n_20, n_24, n_31, n_32, n_34, n_40, n_41, n_44, n_45, n_47, n_48, n_57, n_58, n_59, n_61, n_63, n_64, n_65, n_68, n_90, n_91, n_93, n_95, n_97, n_100, n_122, n_123, n_125, n_128, n_144, n_200, n_255, n_256, n_300, n_400, n_600, n_1536, n_3980, n_4000, n_4001, n_4300, n_65536, l_0, l_1, l_2, l_3, l_4, l_10, l_48, l_63, l_255, l_300, nI_ltI, nI_leI, nI_eq, nI_clamp, nI_add, pk_sub, pk_mul, nI_ne1, ne1_nI, nI_pge, nI_nlt0, nI_l, lN_i, lN_add, lN_mul, lN_sub, pk_lLT, pk_lLE, pk_lEQ, lg_lt, lg_ge, lg_eq0, lg_le, lg_gt, lg_ltn, lg_gen, lg_eq0n, lg_len, lg_gtn, Nat.zero_le, Nat.not_lt_zero, not_false_eq_true, not_true_eq_false, true_and, and_true]; done) | (simp (maxSteps := 4000000) (disch := omega) only [n_0, n_1, n_2, n_3, n_4, n_5, n_6, n_7, n_8, n_9, n_10, n_11, n_12, n_13, n_14, n_15, n_16, n_18, n_20, n_24, n_31, n_32, n_34, n_40, n_41, n_44, n_45, n_47, n_48, n_57, n_58, n_59, n_61, n_63, n_64, n_65, n_68, n_90, n_91, n_93, n_95, n_97, n_100, n_122, n_123, n_125, n_128, n_144, n_200, n_255, n_256, n_300, n_400, n_600, n_1536, n_3980, n_4000, n_4001, n_4300, n_65536, l_0, l_1, l_2, l_3, l_4, l_10, l_48, l_63, l_255, l_300, nI_ltI, nI_leI, nI_eq, nI_clamp, nI_add, pk_sub, pk_mul, nI_ne1, ne1_nI, nI_pge, nI_nlt0, nI_l, lN_i, lN_add, lN_mul, lN_sub, pk_lLT, pk_lLE, pk_lEQ, lg_lt, lg_ge, lg_eq0, lg_le, lg_gt, lg_ltn, lg_gen, lg_eq0n, lg_len, lg_gtn, Nat.zero_le, Nat.not_lt_zero, not_false_eq_true, not_true_eq_false, true_and, and_true]; omega) | omega)) (o_pos (by (first | (simp (maxSteps := 4000000) (disch := omega) only [n_0, n_1, n_2, n_3, n_4, n_5, n_6, n_7, n_8, n_9, n_10, n_11, n_12, n_13, n_14, n_15, n_16, n_18, n_20, n_24, n_31, n_32, n_34, n_40, n_41, n_44, n_45, n_47, n_48, n_57, n_58, n_59, n_61, n_63, n_64, n_65, n_68, n_90, n_91, n_93, n_95, n_97, n_100, n_122, n_123, n_125, n_128, n_144, n_200, n_255, n_256, n_300, n_400, n_600, n_1536, n_3980, n_4000, n_4001, n_4300, n_65536, l_0, l_1, l_2, l_3, l_4, l_10, l_48, l_63, l_255, l_300, nI_ltI, nI_leI, nI_eq, nI_clamp, nI_add, pk_sub, pk_mul, nI_ne1, ne1_nI, nI_pge, nI_nlt0, nI_l, lN_i, lN_add, lN_mul, lN_sub, pk_lLT, pk_lLE, pk_lEQ, lg_lt, lg_ge, lg_eq0, lg_le, lg_gt, lg_ltn, lg_gen, lg_eq0n, lg_len, lg_gtn, Nat.zero_le, Nat.not_lt_zero, not_false_eq_true, not_true_eq_false, true_and, and_true]; done) | (simp (maxSteps := 4000000) (disch := omega) only [n_0, n_1, n_2, n_3, n_4, n_5, n_6, n_7, n_8, n_9, n_10, n_11, n_12, n_13, n_14, n_15, n_16, n_18, n_20, n_24, n_31, n_32, n_34, n_40, n_41, n_44, n_45, n_47, n_48, n_57, n_58, n_59, n_61, n_63, n_64, n_65, n_68, n_90, n_91, n_93, n_95, n_97, n_100, n_122, n_123, n_125, n_128, n_144, n_200, n_255, n_256, n_300, n_400, n_600, n_1536, n_3980, n_4000, n_4001, n_4300, n_65536, l_0, l_1, l_2, l_3, l_4, l_10, l_48, l_63, l_255, l_300, nI_ltI, nI_leI, nI_eq, nI_clamp, nI_add, pk_sub, pk_mul, nI_ne1, ne1_nI, nI_pge, nI_nlt0, nI_l, lN_i, lN_add, lN_mul, lN_sub, pk_lLT, pk_lLE, pk_lEQ, lg_lt, lg_ge, lg_eq0, lg_le, lg_gt, lg_ltn, lg_gen, lg_eq0n, lg_len, lg_gtn, Nat.zero_le, Nat.not_lt_zero, not_false_eq_true, not_true_eq_false, true_and, and_true]; omega) | omega)) (o_bind r3 z))))
      by_cases c : vV (sg 8 (128 * t + l)) (hj g 1298 (b + l))
      · obtain ⟨r, k1, k2, k3⟩ := ih (l + 1) f (by omega) (by omega)
        refine ⟨r, k1, ⟨fun z l' h1 h2 => ?_, fun z => k2.mpr fun l' h1 h2 => z l' (by omega) h2⟩, st _ (o_pos (by rw [r1 c]; exact one0) k3)⟩
        by_cases cl : l' = l
        · rw [cl]; exact c
        · exact k2.mp z l' (by omega) h2
      · exact ⟨0, Or.inl rfl, ⟨fun z => absurd z (by decide), fun z => absurd (z l (Nat.le_refl l) (by omega)) c⟩, st _ (o_neg (by rw [r2 c]; exact not_not_intro rfl) rfl)⟩
  obtain ⟨r, k1, k2, k3⟩ := lp (sg 7 t) 0 100000 (by omega) (by omega)
  exact ⟨r, k1, ⟨fun z l hl => k2.mp z l (Nat.zero_le l) hl, fun z => k2.mpr fun l _ hl => z l hl⟩, k3⟩
/-- the class's look at all values of structs -/
theorem e_t_areLeaves {mv : Nat} (L : LY h) (C : CS h S sg sd) (W : WF sg sd) (ht : t < sg 0 0) (hv : mv ≤ 600) : ∃ r : Int32, (r = 0 ∨ r = 1) ∧ (r = 1 ↔ ∀ i, i < mv → vV (sg 8 (128 * t + i % sg 7 t)) (hj h 6 i)) ∧ f_t_areLeaves (dS S t) (nI mv) h = some (r, h) := by
  have w := W.2.1 t ht
  have w0 := W.1
  have cnt := w.1
  have D := C.1.ddS (Nat.lt_of_lt_of_le ht W.1.1)
  have d1 : dS S t < hz h := by have := D.1; omega
  have d5 := D.2.2.2.2.1
  have e11 := (C.2.2.1 t ht).1.2.2.2
  have lp : ∀ q i fuel, i + q = mv → q < fuel → ∃ r : Int32, (r = 0 ∨ r = 1) ∧ (r = 1 ↔ ∀ i', i ≤ i' → i' < mv → vV (sg 8 (128 * t + i' % sg 7 t)) (hj h 6 i')) ∧ b_t_areLeaves_16 fuel (dS S t) (nI mv) (nI i) h = some (r, h) := by
    intro q
    induction q with
    | zero =>
      intro i fuel e hf
      obtain ⟨f, rfl, -⟩ := fuel_pos hf
      refine ⟨1, Or.inr rfl, ⟨fun _ l' h1 h2 => by omega, fun _ => rfl⟩, ?_⟩
      show s_t_areLeaves_16 (b_t_areLeaves_16 f) _ _ _ _ = _
      unfold s_t_areLeaves_16
      exact o_pos (by (first | (simp (maxSteps := 4000000) (disch := omega) only [n_0, n_1, n_2, n_3, n_4, n_5, n_6, n_7, n_8, n_9, n_10, n_11, n_12, n_13, n_14, n_15, n_16, n_18, n_20, n_24, n_31, n_32, n_34, n_40, n_41, n_44, n_45, n_47, n_48, n_57, n_58, n_59, n_61, n_63, n_64, n_65, n_68, n_90, n_91, n_93, n_95, n_97, n_100, n_122, n_123, n_125, n_128, n_144, n_200, n_255, n_256, n_300, n_400, n_600, n_1536, n_3980, n_4000, n_4001, n_4300, n_65536, l_0, l_1, l_2, l_3, l_4, l_10, l_48, l_63, l_255, l_300, nI_ltI, nI_leI, nI_eq, nI_clamp, nI_add, pk_sub, pk_mul, nI_ne1, ne1_nI, nI_pge, nI_nlt0, nI_l, lN_i, lN_add, lN_mul, lN_sub, pk_lLT, pk_lLE, pk_lEQ, lg_lt, lg_ge, lg_eq0, lg_le, lg_gt, lg_ltn, lg_gen, lg_eq0n, lg_len, lg_gtn, Nat.zero_le, Nat.not_lt_zero, not_false_eq_true, not_true_eq_false, true_and, and_true]; done) | (simp (maxSteps := 4000000) (disch := omega) only [n_0, n_1, n_2, n_3, n_4, n_5, n_6, n_7, n_8, n_9, n_10, n_11, n_12, n_13, n_14, n_15, n_16, n_18, n_20, n_24, n_31, n_32, n_34, n_40, n_41, n_44, n_45, n_47, n_48, n_57, n_58, n_59, n_61, n_63, n_64, n_65, n_68, n_90, n_91, n_93, n_95, n_97, n_100, n_122, n_123, n_125, n_128, n_144, n_200, n_255, n_256, n_300, n_400, n_600, n_1536, n_3980, n_4000, n_4001, n_4300, n_65536, l_0, l_1, l_2, l_3, l_4, l_10, l_48, l_63, l_255, l_300, nI_ltI, nI_leI, nI_eq, nI_clamp, nI_add, pk_sub, pk_mul, nI_ne1, ne1_nI, nI_pge, nI_nlt0, nI_l, lN_i, lN_add, lN_mul, lN_sub, pk_lLT, pk_lLE, pk_lEQ, lg_lt, lg_ge, lg_eq0, lg_le, lg_gt, lg_ltn, lg_gen, lg_eq0n, lg_len, lg_gtn, Nat.zero_le, Nat.not_lt_zero, not_false_eq_true, not_true_eq_false, true_and, and_true]; omega) | omega)) rfl
    | succ q ih =>
      intro i fuel e hf
      obtain ⟨f, rfl, -⟩ := fuel_pos hf
      have im : i % sg 7 t < sg 7 t := Nat.mod_lt _ (by omega)
      have lf := w.2.2.1 (i % sg 7 t) im
      obtain ⟨rv, r1, r2, r3⟩ := e_t_isValue (h := h) (v := hj h 6 i) lf.1
      have e1 := e_d_leafScalar (k := i % sg 7 t) D (by omega)
      rw [((C.2.2.1 t ht).2.2 (i % sg 7 t) im).1] at e1
      have st : ∀ X : Option (Int32 × XH), (if ¬ rv = 0 then b_t_areLeaves_16 f (dS S t) (nI mv) (nI (i + 1)) h else some (0, h)) = X → b_t_areLeaves_16 (f + 1) (dS S t) (nI mv) (nI i) h = X := by
        intro X z
        show s_t_areLeaves_16 (b_t_areLeaves_16 f) _ _ _ _ = _
        unfold s_t_areLeaves_16
        rw [e11, pk_rem (by omega) (by omega) (by omega), n_1, nI_add]
        exact o_neg (by (first | (simp (maxSteps := 4000000) (disch := omega) only [n_0, n_1, n_2, n_3, n_4, n_5, n_6, n_7, n_8, n_9, n_10, n_11, n_12, n_13, n_14, n_15, n_16, n_18, n_20, n_24, n_31, n_32, n_34, n_40, n_41, n_44, n_45, n_47, n_48, n_57, n_58, n_59, n_61, n_63, n_64, n_65, n_68, n_90, n_91, n_93, n_95, n_97, n_100, n_122, n_123, n_125, n_128, n_144, n_200, n_255, n_256, n_300, n_400, n_600, n_1536, n_3980, n_4000, n_4001, n_4300, n_65536, l_0, l_1, l_2, l_3, l_4, l_10, l_48, l_63, l_255, l_300, nI_ltI, nI_leI, nI_eq, nI_clamp, nI_add, pk_sub, pk_mul, nI_ne1, ne1_nI, nI_pge, nI_nlt0, nI_l, lN_i, lN_add, lN_mul, lN_sub, pk_lLT, pk_lLE, pk_lEQ, lg_lt, lg_ge, lg_eq0, lg_le, lg_gt, lg_ltn, lg_gen, lg_eq0n, lg_len, lg_gtn, Nat.zero_le, Nat.not_lt_zero, not_false_eq_true, not_true_eq_false, true_and, and_true]; done) | (simp (maxSteps := 4000000) (disch := omega) only [n_0, n_1, n_2, n_3, n_4, n_5, n_6, n_7, n_8, n_9, n_10, n_11, n_12, n_13, n_14, n_15, n_16, n_18, n_20, n_24, n_31, n_32, n_34, n_40, n_41, n_44, n_45, n_47, n_48, n_57, n_58, n_59, n_61, n_63, n_64, n_65, n_68, n_90, n_91, n_93, n_95, n_97, n_100, n_122, n_123, n_125, n_128, n_144, n_200, n_255, n_256, n_300, n_400, n_600, n_1536, n_3980, n_4000, n_4001, n_4300, n_65536, l_0, l_1, l_2, l_3, l_4, l_10, l_48, l_63, l_255, l_300, nI_ltI, nI_leI, nI_eq, nI_clamp, nI_add, pk_sub, pk_mul, nI_ne1, ne1_nI, nI_pge, nI_nlt0, nI_l, lN_i, lN_add, lN_mul, lN_sub, pk_lLT, pk_lLE, pk_lEQ, lg_lt, lg_ge, lg_eq0, lg_le, lg_gt, lg_ltn, lg_gen, lg_eq0n, lg_len, lg_gtn, Nat.zero_le, Nat.not_lt_zero, not_false_eq_true, not_true_eq_false, true_and, and_true]; omega) | omega)) (o_pos ⟨d1, d5⟩ (o_pos (show ¬ nI (sg 7 t) = 0 by (first | (simp (maxSteps := 4000000) (disch := omega) only [n_0, n_1, n_2, n_3, n_4, n_5, n_6, n_7, n_8, n_9, n_10, n_11, n_12, n_13, n_14, n_15, n_16, n_18, n_20, n_24, n_31, n_32, n_34, n_40, n_41, n_44, n_45, n_47, n_48, n_57, n_58, n_59, n_61, n_63, n_64, n_65, n_68, n_90, n_91, n_93, n_95, n_97, n_100, n_122, n_123, n_125, n_128, n_144, n_200, n_255, n_256, n_300, n_400, n_600, n_1536, n_3980, n_4000, n_4001, n_4300, n_65536, l_0, l_1, l_2, l_3, l_4, l_10, l_48, l_63, l_255, l_300, nI_ltI, nI_leI, nI_eq, nI_clamp, nI_add, pk_sub, pk_mul, nI_ne1, ne1_nI, nI_pge, nI_nlt0, nI_l, lN_i, lN_add, lN_mul, lN_sub, pk_lLT, pk_lLE, pk_lEQ, lg_lt, lg_ge, lg_eq0, lg_le, lg_gt, lg_ltn, lg_gen, lg_eq0n, lg_len, lg_gtn, Nat.zero_le, Nat.not_lt_zero, not_false_eq_true, not_true_eq_false, true_and, and_true]; done) | (simp (maxSteps := 4000000) (disch := omega) only [n_0, n_1, n_2, n_3, n_4, n_5, n_6, n_7, n_8, n_9, n_10, n_11, n_12, n_13, n_14, n_15, n_16, n_18, n_20, n_24, n_31, n_32, n_34, n_40, n_41, n_44, n_45, n_47, n_48, n_57, n_58, n_59, n_61, n_63, n_64, n_65, n_68, n_90, n_91, n_93, n_95, n_97, n_100, n_122, n_123, n_125, n_128, n_144, n_200, n_255, n_256, n_300, n_400, n_600, n_1536, n_3980, n_4000, n_4001, n_4300, n_65536, l_0, l_1, l_2, l_3, l_4, l_10, l_48, l_63, l_255, l_300, nI_ltI, nI_leI, nI_eq, nI_clamp, nI_add, pk_sub, pk_mul, nI_ne1, ne1_nI, nI_pge, nI_nlt0, nI_l, lN_i, lN_add, lN_mul, lN_sub, pk_lLT, pk_lLE, pk_lEQ, lg_lt, lg_ge, lg_eq0, lg_le, lg_gt, lg_ltn, lg_gen, lg_eq0n, lg_len, lg_gtn, Nat.zero_le, Nat.not_lt_zero, not_false_eq_true, not_true_eq_false, true_and, and_true]; omega) | omega)) (o_bind e1 (o_bind (e_w_at L (by omega)) (o_bind r3 z)))))
      by_cases c : vV (sg 8 (128 * t + i % sg 7 t)) (hj h 6 i)
      · obtain ⟨r, k1, k2, k3⟩ := ih (i + 1) f (by omega) (by omega)
        refine ⟨r, k1, ⟨fun z l' h1 h2 => ?_, fun z => k2.mpr fun l' h1 h2 => z l' (by omega) h2⟩, st _ (o_pos (by rw [r1 c]; exact one0) k3)⟩
        by_cases cl : l' = i
        · rw [cl]; exact c
        · exact k2.mp z l' (by omega) h2
      · exact ⟨0, Or.inl rfl, ⟨fun z => absurd z (by decide), fun z => absurd (z i (Nat.le_refl i) (by omega)) c⟩, st _ (o_neg (by rw [r2 c]; exact not_not_intro rfl) rfl)⟩
  obtain ⟨r, k1, k2, k3⟩ := lp mv 0 100000 (by omega) (by omega)
  refine ⟨r, k1, ⟨fun z l hl => k2.mp z l (Nat.zero_le l) hl, fun z => k2.mpr fun l _ hl => z l hl⟩, ?_⟩
  unfold f_t_areLeaves
  rw [e11]
  exact o_pos ⟨d1, d5⟩ (o_pos (by (first | (simp (maxSteps := 4000000) (disch := omega) only [n_0, n_1, n_2, n_3, n_4, n_5, n_6, n_7, n_8, n_9, n_10, n_11, n_12, n_13, n_14, n_15, n_16, n_18, n_20, n_24, n_31, n_32, n_34, n_40, n_41, n_44, n_45, n_47, n_48, n_57, n_58, n_59, n_61, n_63, n_64, n_65, n_68, n_90, n_91, n_93, n_95, n_97, n_100, n_122, n_123, n_125, n_128, n_144, n_200, n_255, n_256, n_300, n_400, n_600, n_1536, n_3980, n_4000, n_4001, n_4300, n_65536, l_0, l_1, l_2, l_3, l_4, l_10, l_48, l_63, l_255, l_300, nI_ltI, nI_leI, nI_eq, nI_clamp, nI_add, pk_sub, pk_mul, nI_ne1, ne1_nI, nI_pge, nI_nlt0, nI_l, lN_i, lN_add, lN_mul, lN_sub, pk_lLT, pk_lLE, pk_lEQ, lg_lt, lg_ge, lg_eq0, lg_le, lg_gt, lg_ltn, lg_gen, lg_eq0n, lg_len, lg_gtn, Nat.zero_le, Nat.not_lt_zero, not_false_eq_true, not_true_eq_false, true_and, and_true]; done) | (simp (maxSteps := 4000000) (disch := omega) only [n_0, n_1, n_2, n_3, n_4, n_5, n_6, n_7, n_8, n_9, n_10, n_11, n_12, n_13, n_14, n_15, n_16, n_18, n_20, n_24, n_31, n_32, n_34, n_40, n_41, n_44, n_45, n_47, n_48, n_57, n_58, n_59, n_61, n_63, n_64, n_65, n_68, n_90, n_91, n_93, n_95, n_97, n_100, n_122, n_123, n_125, n_128, n_144, n_200, n_255, n_256, n_300, n_400, n_600, n_1536, n_3980, n_4000, n_4001, n_4300, n_65536, l_0, l_1, l_2, l_3, l_4, l_10, l_48, l_63, l_255, l_300, nI_ltI, nI_leI, nI_eq, nI_clamp, nI_add, pk_sub, pk_mul, nI_ne1, ne1_nI, nI_pge, nI_nlt0, nI_l, lN_i, lN_add, lN_mul, lN_sub, pk_lLT, pk_lLE, pk_lEQ, lg_lt, lg_ge, lg_eq0, lg_le, lg_gt, lg_ltn, lg_gen, lg_eq0n, lg_len, lg_gtn, Nat.zero_le, Nat.not_lt_zero, not_false_eq_true, not_true_eq_false, true_and, and_true]; omega) | omega)) k3)
/-- all leaves: one by one, or struct by struct -/
theorem leaves_all {c m : Nat} {P : Nat → Nat → Prop} (hc : 0 < c) : (∀ i, i < m * c → P (i % c) i) ↔ ∀ q, q < m → ∀ l, l < c → P l (q * c + l) := by
  constructor
  · intro z q hq l hl
    have h1 : (q + 1) * c ≤ m * c := Nat.mul_le_mul_right c (by omega)
    rw [Nat.add_mul, Nat.one_mul] at h1
    have := z (q * c + l) (by omega)
    rw [Nat.add_comm (q * c) l, Nat.add_mul_mod_self_right, Nat.mod_eq_of_lt hl] at this
    rw [Nat.add_comm (q * c) l]
    exact this
  · intro z i hi'
    have h1 : i / c < m := (Nat.div_lt_iff_lt_mul hc).mpr hi'
    have := z (i / c) h1 (i % c) (Nat.mod_lt _ hc)
    rw [Nat.mul_comm (i / c) c, Nat.div_add_mod] at this
    exact this
/-- the model's loop over the elements of a vector -/
theorem vec_m_loop {x0 x1 : Int32} {each m : Nat} {E : Nat → Prop} (he : 1 ≤ each) (hmv : m * each ≤ 600) (st : ∀ i, i < m → ∀ K, ∃ r : Int32, (r = 0 ∨ r = 1) ∧ (r = 1 ↔ E i) ∧ s_m_vector_136 K x0 x1 (nI (m * each)) (nI each) 1 (nI (i * each)) g = K x0 x1 (nI (m * each)) (nI each) r (nI (i * each) + nI each) g) : ∃ r : Int32, (r = 0 ∨ r = 1) ∧ (r = 1 ↔ ∀ i, i < m → E i) ∧ b_m_vector_136 100000 x0 x1 (nI (m * each)) (nI each) 1 0 g = b_m_vector_215 x0 x1 (nI (m * each)) (nI each) r g := by
  have lp : ∀ q i fuel, i + q = m → q < fuel → ∃ r : Int32, (r = 0 ∨ r = 1) ∧ (r = 1 ↔ ∀ i', i ≤ i' → i' < m → E i') ∧ b_m_vector_136 fuel x0 x1 (nI (m * each)) (nI each) 1 (nI (i * each)) g = b_m_vector_215 x0 x1 (nI (m * each)) (nI each) r g := by
    intro q
    induction q with
    | zero =>
      intro i fuel e hf
      obtain ⟨f, rfl, -⟩ := fuel_pos hf
      have ei : i = m := by omega
      subst ei
      refine ⟨1, Or.inr rfl, ⟨fun _ l' h1 h2 => by omega, fun _ => rfl⟩, ?_⟩
      show s_m_vector_136 (b_m_vector_136 f) _ _ _ _ _ _ _ = _
      unfold s_m_vector_136
      exact o_pos (Int32.le_refl _) rfl
    | succ q ih =>
      intro i fuel e hf
      obtain ⟨f, rfl, hf2⟩ := fuel_pos hf
      obtain ⟨rv, r1, r2, r3⟩ := st i (by omega) (b_m_vector_136 f)
      have nx : nI (i * each) + nI each = nI ((i + 1) * each) := by rw [nI_add, Nat.add_mul, Nat.one_mul]
      rw [nx] at r3
      have s0 : ∀ X, b_m_vector_136 f x0 x1 (nI (m * each)) (nI each) rv (nI ((i + 1) * each)) g = X → b_m_vector_136 (f + 1) x0 x1 (nI (m * each)) (nI each) 1 (nI (i * each)) g = X := fun X z => r3.trans z
      by_cases c : E i
      · obtain ⟨r, k1, k2, k3⟩ := ih (i + 1) f (by omega) (by omega)
        rw [r2.mpr c] at s0
        refine ⟨r, k1, ⟨fun z l' h1 h2 => ?_, fun z => k2.mpr fun l' h1 h2 => z l' (by omega) h2⟩, s0 _ k3⟩
        by_cases cl : l' = i
        · rw [cl]; exact c
        · exact k2.mp z l' (by omega) h2
      · have rv0 : rv = 0 := r1.resolve_right fun z => c (r2.mp z)
        rw [rv0] at s0
        refine ⟨0, Or.inl rfl, ⟨fun z => absurd z (by decide), fun z => absurd (z i (Nat.le_refl i) (by omega)) c⟩, s0 _ ?_⟩
        obtain ⟨f', rfl, -⟩ := fuel_pos (show q < f by omega)
        show s_m_vector_136 (b_m_vector_136 f') _ _ _ _ _ _ _ = _
        unfold s_m_vector_136
        by_cases c2 : nI (m * each) ≤ nI ((i + 1) * each)
        · exact o_pos c2 rfl
        · exact o_neg c2 (o_pos rfl rfl)
  have m600 : m ≤ 600 := Nat.le_trans (Nat.le_mul_of_pos_right m he) hmv
  obtain ⟨r, k1, k2, k3⟩ := lp m 0 100000 (by omega) (by omega)
  rw [Nat.zero_mul, nI_0] at k3
  exact ⟨r, k1, ⟨fun z l hl => k2.mp z l (Nat.zero_le l) hl, fun z => k2.mpr fun l _ hl => z l hl⟩, k3⟩
/-- the class's loop over the elements of a vector -/
theorem vec_c_loop {x0 x1 y : Int32} {m : Nat} {E : Nat → Prop} (hmv : m ≤ 600) (st : ∀ i, i < m → ∀ K, ∃ r : Int32, (r = 0 ∨ r = 1) ∧ (r = 1 ↔ E i) ∧ s_t_areElements_37 K x0 x1 (nI m) y (nI i) h = b_t_areElements_80 K x0 x1 (nI m) y (nI i) r h) : ∃ r : Int32, (r = 0 ∨ r = 1) ∧ (r = 1 ↔ ∀ i, i < m → E i) ∧ b_t_areElements_37 100000 x0 x1 (nI m) y 0 h = some (r, h) := by
  have lp : ∀ q i fuel, i + q = m → q < fuel → ∃ r : Int32, (r = 0 ∨ r = 1) ∧ (r = 1 ↔ ∀ i', i ≤ i' → i' < m → E i') ∧ b_t_areElements_37 fuel x0 x1 (nI m) y (nI i) h = some (r, h) := by
    intro q
    induction q with
    | zero =>
      intro i fuel e hf
      obtain ⟨f, rfl, -⟩ := fuel_pos hf
      refine ⟨1, Or.inr rfl, ⟨fun _ l' h1 h2 => by omega, fun _ => rfl⟩, ?_⟩
      show s_t_areElements_37 (b_t_areElements_37 f) _ _ _ _ _ _ = _
      unfold s_t_areElements_37
      exact o_pos (by (first | (simp (maxSteps := 4000000) (disch := omega) only [n_0, n_1, n_2, n_3, n_4, n_5, n_6, n_7, n_8, n_9, n_10, n_11, n_12, n_13, n_14, n_15, n_16, n_18, n_20, n_24, n_31, n_32, n_34, n_40, n_41, n_44, n_45, n_47, n_48, n_57, n_58, n_59, n_61, n_63, n_64, n_65, n_68, n_90, n_91, n_93, n_95, n_97, n_100, n_122, n_123, n_125, n_128, n_144, n_200, n_255, n_256, n_300, n_400, n_600, n_1536, n_3980, n_4000, n_4001, n_4300, n_65536, l_0, l_1, l_2, l_3, l_4, l_10, l_48, l_63, l_255, l_300, nI_ltI, nI_leI, nI_eq, nI_clamp, nI_add, pk_sub, pk_mul, nI_ne1, ne1_nI, nI_pge, nI_nlt0, nI_l, lN_i, lN_add, lN_mul, lN_sub, pk_lLT, pk_lLE, pk_lEQ, lg_lt, lg_ge, lg_eq0, lg_le, lg_gt, lg_ltn, lg_gen, lg_eq0n, lg_len, lg_gtn, Nat.zero_le, Nat.not_lt_zero, not_false_eq_true, not_true_eq_false, true_and, and_true]; done) | (simp (maxSteps := 4000000) (disch := omega) only [n_0, n_1, n_2, n_3, n_4, n_5, n_6, n_7, n_8, n_9, n_10, n_11, n_12, n_13, n_14, n_15, n_16, n_18, n_20, n_24, n_31, n_32, n_34, n_40, n_41, n_44, n_45, n_47, n_48, n_57, n_58, n_59, n_61, n_63, n_64, n_65, n_68, n_90, n_91, n_93, n_95, n_97, n_100, n_122, n_123, n_125, n_128, n_144, n_200, n_255, n_256, n_300, n_400, n_600, n_1536, n_3980, n_4000, n_4001, n_4300, n_65536, l_0, l_1, l_2, l_3, l_4, l_10, l_48, l_63, l_255, l_300, nI_ltI, nI_leI, nI_eq, nI_clamp, nI_add, pk_sub, pk_mul, nI_ne1, ne1_nI, nI_pge, nI_nlt0, nI_l, lN_i, lN_add, lN_mul, lN_sub, pk_lLT, pk_lLE, pk_lEQ, lg_lt, lg_ge, lg_eq0, lg_le, lg_gt, lg_ltn, lg_gen, lg_eq0n, lg_len, lg_gtn, Nat.zero_le, Nat.not_lt_zero, not_false_eq_true, not_true_eq_false, true_and, and_true]; omega) | omega)) rfl
    | succ q ih =>
      intro i fuel e hf
      obtain ⟨f, rfl, hf2⟩ := fuel_pos hf
      obtain ⟨rv, r1, r2, r3⟩ := st i (by omega) (b_t_areElements_37 f)
      have s0 : ∀ X, b_t_areElements_80 (b_t_areElements_37 f) x0 x1 (nI m) y (nI i) rv h = X → b_t_areElements_37 (f + 1) x0 x1 (nI m) y (nI i) h = X := fun X z => r3.trans z
      unfold b_t_areElements_80 at s0
      rw [n_1, nI_add] at s0
      by_cases c : E i
      · obtain ⟨r, k1, k2, k3⟩ := ih (i + 1) f (by omega) (by omega)
        refine ⟨r, k1, ⟨fun z l' h1 h2 => ?_, fun z => k2.mpr fun l' h1 h2 => z l' (by omega) h2⟩, s0 _ (o_pos (by rw [r2.mpr c]; exact one0) k3)⟩
        by_cases cl : l' = i
        · rw [cl]; exact c
        · exact k2.mp z l' (by omega) h2
      · have rv0 : rv = 0 := r1.resolve_right fun z => c (r2.mp z)
        exact ⟨0, Or.inl rfl, ⟨fun z => absurd z (by decide), fun z => absurd (z i (Nat.le_refl i) (by omega)) c⟩, s0 _ (o_neg (by rw [rv0]; exact not_not_intro rfl) rfl)⟩
  obtain ⟨r, k1, k2, k3⟩ := lp m 0 100000 (by omega) (by omega)
  exact ⟨r, k1, ⟨fun z l hl => k2.mp z l (Nat.zero_le l) hl, fun z => k2.mpr fun l _ hl => z l hl⟩, k3⟩
end Vals
