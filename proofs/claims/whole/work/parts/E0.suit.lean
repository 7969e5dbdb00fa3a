/-! The builder: whether values suit a field -/

section Suit
variable {c g : XH} {S n tc mv t f : Nat} {sg : SGT} {sd : Nat → Int64}
theorem i64_lt {x y : Int64} : x < y ↔ x.toInt < y.toInt := Int64.lt_iff_toInt_lt
theorem i64_le {x y : Int64} : x ≤ y ↔ x.toInt ≤ y.toInt := Int64.le_iff_toInt_le
/-- a field's place in the model -/
theorem e_m_fieldOf0 (M : MS g sg sd) (W : WF sg sd) (e7 : hi g 1262 7 = 1) (ht : t < sg 0 1) (z : Int32) : ((z < 0 ∨ nI (sg 10 t) ≤ z) ∧ f_m_fieldOf 0 (nI t) z g = some (-1, g)) ∨ ∃ f, f < sg 10 t ∧ z = nI f ∧ f_m_fieldOf 0 (nI t) z g = some (nI (16 * t + f), g) := by
  have w0 := W.1
  have wt := (W.2.2.1 t ht).1
  have iT : f_m_isTable (nI t) g = some (1, g) := by
    unfold f_m_isTable
    rw [e7, M.1.2.1]
    exact o_neg one0 (o_neg (by (first | (simp (maxSteps := 4000000) (disch := omega) only [n_0, n_1, n_2, n_3, n_4, n_5, n_6, n_7, n_8, n_9, n_10, n_11, n_12, n_13, n_14, n_15, n_16, n_18, n_20, n_24, n_31, n_32, n_34, n_40, n_41, n_44, n_45, n_47, n_48, n_57, n_58, n_59, n_61, n_63, n_64, n_65, n_68, n_90, n_91, n_93, n_95, n_97, n_100, n_122, n_123, n_125, n_128, n_144, n_200, n_255, n_256, n_300, n_400, n_600, n_1536, n_3980, n_4000, n_4001, n_4300, n_65536, l_0, l_1, l_2, l_3, l_4, l_10, l_48, l_63, l_255, l_300, nI_ltI, nI_leI, nI_eq, nI_clamp, nI_add, pk_sub, pk_mul, nI_ne1, ne1_nI, nI_pge, nI_nlt0, nI_l, lN_i, lN_add, lN_mul, lN_sub, pk_lLT, pk_lLE, pk_lEQ, lg_lt, lg_ge, lg_eq0, lg_le, lg_gt, lg_ltn, lg_gen, lg_eq0n, lg_len, lg_gtn, Nat.zero_le, Nat.not_lt_zero, not_false_eq_true, not_true_eq_false, true_and, and_true]; done) | (simp (maxSteps := 4000000) (disch := omega) only [n_0, n_1, n_2, n_3, n_4, n_5, n_6, n_7, n_8, n_9, n_10, n_11, n_12, n_13, n_14, n_15, n_16, n_18, n_20, n_24, n_31, n_32, n_34, n_40, n_41, n_44, n_45, n_47, n_48, n_57, n_58, n_59, n_61, n_63, n_64, n_65, n_68, n_90, n_91, n_93, n_95, n_97, n_100, n_122, n_123, n_125, n_128, n_144, n_200, n_255, n_256, n_300, n_400, n_600, n_1536, n_3980, n_4000, n_4001, n_4300, n_65536, l_0, l_1, l_2, l_3, l_4, l_10, l_48, l_63, l_255, l_300, nI_ltI, nI_leI, nI_eq, nI_clamp, nI_add, pk_sub, pk_mul, nI_ne1, ne1_nI, nI_pge, nI_nlt0, nI_l, lN_i, lN_add, lN_mul, lN_sub, pk_lLT, pk_lLE, pk_lEQ, lg_lt, lg_ge, lg_eq0, lg_le, lg_gt, lg_ltn, lg_gen, lg_eq0n, lg_len, lg_gtn, Nat.zero_le, Nat.not_lt_zero, not_false_eq_true, not_true_eq_false, true_and, and_true]; omega) | omega)) (o_neg (by (first | (simp (maxSteps := 4000000) (disch := omega) only [n_0, n_1, n_2, n_3, n_4, n_5, n_6, n_7, n_8, n_9, n_10, n_11, n_12, n_13, n_14, n_15, n_16, n_18, n_20, n_24, n_31, n_32, n_34, n_40, n_41, n_44, n_45, n_47, n_48, n_57, n_58, n_59, n_61, n_63, n_64, n_65, n_68, n_90, n_91, n_93, n_95, n_97, n_100, n_122, n_123, n_125, n_128, n_144, n_200, n_255, n_256, n_300, n_400, n_600, n_1536, n_3980, n_4000, n_4001, n_4300, n_65536, l_0, l_1, l_2, l_3, l_4, l_10, l_48, l_63, l_255, l_300, nI_ltI, nI_leI, nI_eq, nI_clamp, nI_add, pk_sub, pk_mul, nI_ne1, ne1_nI, nI_pge, nI_nlt0, nI_l, lN_i, lN_add, lN_mul, lN_sub, pk_lLT, pk_lLE, pk_lEQ, lg_lt, lg_ge, lg_eq0, lg_le, lg_gt, lg_ltn, lg_gen, lg_eq0n, lg_len, lg_gtn, Nat.zero_le, Nat.not_lt_zero, not_false_eq_true, not_true_eq_false, true_and, and_true]; done) | (simp (maxSteps := 4000000) (disch := omega) only [n_0, n_1, n_2, n_3, n_4, n_5, n_6, n_7, n_8, n_9, n_10, n_11, n_12, n_13, n_14, n_15, n_16, n_18, n_20, n_24, n_31, n_32, n_34, n_40, n_41, n_44, n_45, n_47, n_48, n_57, n_58, n_59, n_61, n_63, n_64, n_65, n_68, n_90, n_91, n_93, n_95, n_97, n_100, n_122, n_123, n_125, n_128, n_144, n_200, n_255, n_256, n_300, n_400, n_600, n_1536, n_3980, n_4000, n_4001, n_4300, n_65536, l_0, l_1, l_2, l_3, l_4, l_10, l_48, l_63, l_255, l_300, nI_ltI, nI_leI, nI_eq, nI_clamp, nI_add, pk_sub, pk_mul, nI_ne1, ne1_nI, nI_pge, nI_nlt0, nI_l, lN_i, lN_add, lN_mul, lN_sub, pk_lLT, pk_lLE, pk_lEQ, lg_lt, lg_ge, lg_eq0, lg_le, lg_gt, lg_ltn, lg_gen, lg_eq0n, lg_len, lg_gtn, Nat.zero_le, Nat.not_lt_zero, not_false_eq_true, not_true_eq_false, true_and, and_true]; omega) | omega)) rfl))
  have em : hi g 1283 (nI t).toNatClampNeg = nI (sg 10 t) := by rw [nI_clamp (by omega)]; exact (M.2.2.1 t ht).1.1
  unfold f_m_fieldOf
  rcases x32 z (sg 10 t) (by omega) with q | q | ⟨f, hf, ef⟩
  · exact Or.inl ⟨Or.inl q, o_pos rfl (o_bind iT (o_neg one0 (o_pos q rfl)))⟩
  · refine Or.inl ⟨Or.inr q, o_pos rfl (o_bind iT (o_neg one0 ?_))⟩
    by_cases cz : z < 0
    · exact o_pos cz rfl
    · refine o_neg cz (o_pos (by (first | (simp (maxSteps := 4000000) (disch := omega) only [n_0, n_1, n_2, n_3, n_4, n_5, n_6, n_7, n_8, n_9, n_10, n_11, n_12, n_13, n_14, n_15, n_16, n_18, n_20, n_24, n_31, n_32, n_34, n_40, n_41, n_44, n_45, n_47, n_48, n_57, n_58, n_59, n_61, n_63, n_64, n_65, n_68, n_90, n_91, n_93, n_95, n_97, n_100, n_122, n_123, n_125, n_128, n_144, n_200, n_255, n_256, n_300, n_400, n_600, n_1536, n_3980, n_4000, n_4001, n_4300, n_65536, l_0, l_1, l_2, l_3, l_4, l_10, l_48, l_63, l_255, l_300, nI_ltI, nI_leI, nI_eq, nI_clamp, nI_add, pk_sub, pk_mul, nI_ne1, ne1_nI, nI_pge, nI_nlt0, nI_l, lN_i, lN_add, lN_mul, lN_sub, pk_lLT, pk_lLE, pk_lEQ, lg_lt, lg_ge, lg_eq0, lg_le, lg_gt, lg_ltn, lg_gen, lg_eq0n, lg_len, lg_gtn, Nat.zero_le, Nat.not_lt_zero, not_false_eq_true, not_true_eq_false, true_and, and_true]; done) | (simp (maxSteps := 4000000) (disch := omega) only [n_0, n_1, n_2, n_3, n_4, n_5, n_6, n_7, n_8, n_9, n_10, n_11, n_12, n_13, n_14, n_15, n_16, n_18, n_20, n_24, n_31, n_32, n_34, n_40, n_41, n_44, n_45, n_47, n_48, n_57, n_58, n_59, n_61, n_63, n_64, n_65, n_68, n_90, n_91, n_93, n_95, n_97, n_100, n_122, n_123, n_125, n_128, n_144, n_200, n_255, n_256, n_300, n_400, n_600, n_1536, n_3980, n_4000, n_4001, n_4300, n_65536, l_0, l_1, l_2, l_3, l_4, l_10, l_48, l_63, l_255, l_300, nI_ltI, nI_leI, nI_eq, nI_clamp, nI_add, pk_sub, pk_mul, nI_ne1, ne1_nI, nI_pge, nI_nlt0, nI_l, lN_i, lN_add, lN_mul, lN_sub, pk_lLT, pk_lLE, pk_lEQ, lg_lt, lg_ge, lg_eq0, lg_le, lg_gt, lg_ltn, lg_gen, lg_eq0n, lg_len, lg_gtn, Nat.zero_le, Nat.not_lt_zero, not_false_eq_true, not_true_eq_false, true_and, and_true]; omega) | omega)) ?_)
      dsimp only
      rw [em]
      exact o_pos q rfl
  · subst ef
    refine Or.inr ⟨f, hf, rfl, o_pos rfl (o_bind iT (o_neg one0 (o_neg (by (first | (simp (maxSteps := 4000000) (disch := omega) only [n_0, n_1, n_2, n_3, n_4, n_5, n_6, n_7, n_8, n_9, n_10, n_11, n_12, n_13, n_14, n_15, n_16, n_18, n_20, n_24, n_31, n_32, n_34, n_40, n_41, n_44, n_45, n_47, n_48, n_57, n_58, n_59, n_61, n_63, n_64, n_65, n_68, n_90, n_91, n_93, n_95, n_97, n_100, n_122, n_123, n_125, n_128, n_144, n_200, n_255, n_256, n_300, n_400, n_600, n_1536, n_3980, n_4000, n_4001, n_4300, n_65536, l_0, l_1, l_2, l_3, l_4, l_10, l_48, l_63, l_255, l_300, nI_ltI, nI_leI, nI_eq, nI_clamp, nI_add, pk_sub, pk_mul, nI_ne1, ne1_nI, nI_pge, nI_nlt0, nI_l, lN_i, lN_add, lN_mul, lN_sub, pk_lLT, pk_lLE, pk_lEQ, lg_lt, lg_ge, lg_eq0, lg_le, lg_gt, lg_ltn, lg_gen, lg_eq0n, lg_len, lg_gtn, Nat.zero_le, Nat.not_lt_zero, not_false_eq_true, not_true_eq_false, true_and, and_true]; done) | (simp (maxSteps := 4000000) (disch := omega) only [n_0, n_1, n_2, n_3, n_4, n_5, n_6, n_7, n_8, n_9, n_10, n_11, n_12, n_13, n_14, n_15, n_16, n_18, n_20, n_24, n_31, n_32, n_34, n_40, n_41, n_44, n_45, n_47, n_48, n_57, n_58, n_59, n_61, n_63, n_64, n_65, n_68, n_90, n_91, n_93, n_95, n_97, n_100, n_122, n_123, n_125, n_128, n_144, n_200, n_255, n_256, n_300, n_400, n_600, n_1536, n_3980, n_4000, n_4001, n_4300, n_65536, l_0, l_1, l_2, l_3, l_4, l_10, l_48, l_63, l_255, l_300, nI_ltI, nI_leI, nI_eq, nI_clamp, nI_add, pk_sub, pk_mul, nI_ne1, ne1_nI, nI_pge, nI_nlt0, nI_l, lN_i, lN_add, lN_mul, lN_sub, pk_lLT, pk_lLE, pk_lEQ, lg_lt, lg_ge, lg_eq0, lg_le, lg_gt, lg_ltn, lg_gen, lg_eq0n, lg_len, lg_gtn, Nat.zero_le, Nat.not_lt_zero, not_false_eq_true, not_true_eq_false, true_and, and_true]; omega) | omega)) (o_pos (by (first | (simp (maxSteps := 4000000) (disch := omega) only [n_0, n_1, n_2, n_3, n_4, n_5, n_6, n_7, n_8, n_9, n_10, n_11, n_12, n_13, n_14, n_15, n_16, n_18, n_20, n_24, n_31, n_32, n_34, n_40, n_41, n_44, n_45, n_47, n_48, n_57, n_58, n_59, n_61, n_63, n_64, n_65, n_68, n_90, n_91, n_93, n_95, n_97, n_100, n_122, n_123, n_125, n_128, n_144, n_200, n_255, n_256, n_300, n_400, n_600, n_1536, n_3980, n_4000, n_4001, n_4300, n_65536, l_0, l_1, l_2, l_3, l_4, l_10, l_48, l_63, l_255, l_300, nI_ltI, nI_leI, nI_eq, nI_clamp, nI_add, pk_sub, pk_mul, nI_ne1, ne1_nI, nI_pge, nI_nlt0, nI_l, lN_i, lN_add, lN_mul, lN_sub, pk_lLT, pk_lLE, pk_lEQ, lg_lt, lg_ge, lg_eq0, lg_le, lg_gt, lg_ltn, lg_gen, lg_eq0n, lg_len, lg_gtn, Nat.zero_le, Nat.not_lt_zero, not_false_eq_true, not_true_eq_false, true_and, and_true]; done) | (simp (maxSteps := 4000000) (disch := omega) only [n_0, n_1, n_2, n_3, n_4, n_5, n_6, n_7, n_8, n_9, n_10, n_11, n_12, n_13, n_14, n_15, n_16, n_18, n_20, n_24, n_31, n_32, n_34, n_40, n_41, n_44, n_45, n_47, n_48, n_57, n_58, n_59, n_61, n_63, n_64, n_65, n_68, n_90, n_91, n_93, n_95, n_97, n_100, n_122, n_123, n_125, n_128, n_144, n_200, n_255, n_256, n_300, n_400, n_600, n_1536, n_3980, n_4000, n_4001, n_4300, n_65536, l_0, l_1, l_2, l_3, l_4, l_10, l_48, l_63, l_255, l_300, nI_ltI, nI_leI, nI_eq, nI_clamp, nI_add, pk_sub, pk_mul, nI_ne1, ne1_nI, nI_pge, nI_nlt0, nI_l, lN_i, lN_add, lN_mul, lN_sub, pk_lLT, pk_lLE, pk_lEQ, lg_lt, lg_ge, lg_eq0, lg_le, lg_gt, lg_ltn, lg_gen, lg_eq0n, lg_len, lg_gtn, Nat.zero_le, Nat.not_lt_zero, not_false_eq_true, not_true_eq_false, true_and, and_true]; omega) | omega)) ?_))))⟩
    dsimp only
    rw [em, n_16, pk_mul, nI_add]
    exact o_neg (by (first | (simp (maxSteps := 4000000) (disch := omega) only [n_0, n_1, n_2, n_3, n_4, n_5, n_6, n_7, n_8, n_9, n_10, n_11, n_12, n_13, n_14, n_15, n_16, n_18, n_20, n_24, n_31, n_32, n_34, n_40, n_41, n_44, n_45, n_47, n_48, n_57, n_58, n_59, n_61, n_63, n_64, n_65, n_68, n_90, n_91, n_93, n_95, n_97, n_100, n_122, n_123, n_125, n_128, n_144, n_200, n_255, n_256, n_300, n_400, n_600, n_1536, n_3980, n_4000, n_4001, n_4300, n_65536, l_0, l_1, l_2, l_3, l_4, l_10, l_48, l_63, l_255, l_300, nI_ltI, nI_leI, nI_eq, nI_clamp, nI_add, pk_sub, pk_mul, nI_ne1, ne1_nI, nI_pge, nI_nlt0, nI_l, lN_i, lN_add, lN_mul, lN_sub, pk_lLT, pk_lLE, pk_lEQ, lg_lt, lg_ge, lg_eq0, lg_le, lg_gt, lg_ltn, lg_gen, lg_eq0n, lg_len, lg_gtn, Nat.zero_le, Nat.not_lt_zero, not_false_eq_true, not_true_eq_false, true_and, and_true]; done) | (simp (maxSteps := 4000000) (disch := omega) only [n_0, n_1, n_2, n_3, n_4, n_5, n_6, n_7, n_8, n_9, n_10, n_11, n_12, n_13, n_14, n_15, n_16, n_18, n_20, n_24, n_31, n_32, n_34, n_40, n_41, n_44, n_45, n_47, n_48, n_57, n_58, n_59, n_61, n_63, n_64, n_65, n_68, n_90, n_91, n_93, n_95, n_97, n_100, n_122, n_123, n_125, n_128, n_144, n_200, n_255, n_256, n_300, n_400, n_600, n_1536, n_3980, n_4000, n_4001, n_4300, n_65536, l_0, l_1, l_2, l_3, l_4, l_10, l_48, l_63, l_255, l_300, nI_ltI, nI_leI, nI_eq, nI_clamp, nI_add, pk_sub, pk_mul, nI_ne1, ne1_nI, nI_pge, nI_nlt0, nI_l, lN_i, lN_add, lN_mul, lN_sub, pk_lLT, pk_lLE, pk_lEQ, lg_lt, lg_ge, lg_eq0, lg_le, lg_gt, lg_ltn, lg_gen, lg_eq0n, lg_len, lg_gtn, Nat.zero_le, Nat.not_lt_zero, not_false_eq_true, not_true_eq_false, true_and, and_true]; omega) | omega)) rfl
/-- the thing that a value names -/
def TG (c : XH) (n tc : Nat) (v : Int64) : Prop := ∃ tt st : Nat, tt < tc ∧ v = lN tt ∧ st ≤ n ∧ hi c 1250 tt = nI st ∧ hi c 1303 tt = nI st
theorem mThing (b3 : RBt c n tc sg) (Q : MSm c g) : hi g 1262 59 = nI tc ∧ ∀ t, t < tc → hi g 1300 t = hi c 1247 t ∧ hi g 1301 t = hi c 1249 t ∧ hi g 1302 t = hi c 1248 t := by
  refine ⟨by rw [Q.2.2 59 (by decide) (by decide) (by decide)]; exact b3.2.2.1, fun t ht => ?_⟩
  obtain ⟨s, st, a1, a2, a3, a4, a5, a6, a7, a8, a9, a10⟩ := b3.2.2.2 t ht
  rw [Q.1 1300 (by decide) (by decide), Q.1 1301 (by decide) (by decide), Q.1 1302 (by decide) (by decide), a4, a5, a6, a7]
  exact ⟨rfl, rfl, rfl⟩
theorem thing3 (b3 : RBt c n tc sg) (v : Int64) (x y z : Int32) : ∃ r : Int32, (r = 0 ∨ r = 1) ∧ f_u_isThing v x y z c = some (r, c) ∧ (∀ g, MSm c g → f_m_isThing v x z y g = some (r, g)) ∧ (r = 1 → TG c n tc v) := by
  obtain ⟨r, k1, k2, k3, k4⟩ := isThing2 b3 v x y z
  refine ⟨r, k1, k2, fun g Q => k3 g (mThing b3 Q).1 (mThing b3 Q).2, fun q => ?_⟩
  obtain ⟨tt, so, st, t1, t2, t3, t4, t5, t6, t7, t8, t9⟩ := k4 q
  exact ⟨tt, st, t1, t2, t6, t7, t8⟩
theorem cz : Int32.toNatClampNeg 0 = 0 := by decide
theorem c1' : Int32.toNatClampNeg 1 = 1 := by decide
theorem suits2 (L : LY c) (r4 : hr c 0 4 = some S) (C : CS c S sg sd) (M : MS c sg sd) (W : WF sg sd) (b3 : RBt c n tc sg) (v6 : mv ≤ 600) (w3 : ∀ k, k < mv → hj c 6 k = hj c 1298 k) (ht : t < sg 0 1) (hf : f < sg 10 t) : ∃ r : Int32, (r = 0 ∨ r = 1) ∧ f_t_suits (dT S t + 2 + f) (nI mv) c = some (r, c) ∧ (∀ g, MSm c g → f_m_fits (nI (16 * t + f)) (nI mv) g = some (r, g)) ∧ (r = 1 → (sg 12 (16 * t + f) = 0 → mv = 1) ∧ (sg 12 (16 * t + f) = 2 → mv = sg 7 (sg 13 (16 * t + f))) ∧ (sg 12 (16 * t + f) = 4 → mv = 2 ∧ TG c n tc (hj c 6 1)) ∧ (sg 12 (16 * t + f) = 1 ∨ sg 12 (16 * t + f) = 3 ∨ sg 12 (16 * t + f) = 5 → mv = 1 ∧ TG c n tc (hj c 6 0))) := by
  have i256 := W.i256 ht hf
  have w0 := W.1
  obtain ⟨⟨f1, f2⟩, i3, i4, i5, i6, i7, i8⟩ := C.fi W ht hf
  have sc := C.1
  have s1 : S < hz c := by have := sc.1; omega
  have k9 : hk c S = 9 := sc.2.2.1
  have us1 : S + 1 < hz c := by have := sc.1; omega
  have us2 : hk c (S + 1) = 4 := sc.gS.2.2.2.1
  have uu1 : S + 517 < hz c := by have := sc.1; omega
  have uu2 : hk c (S + 517) = 4 := sc.gU.2.2.2.1
  obtain ⟨i, hi0⟩ : ∃ i, i = 16 * t + f := ⟨_, rfl⟩
  have wk := W.fk ht hf
  have mf : ∀ g, MSm c g → MFi g i sg sd := fun g Q => by rw [hi0]; exact (Q.ms M).fi ht hf
  rw [← hi0] at i3 i4 i5 i6 i7 i8 wk i256 ⊢
  have ci : (nI i).toNatClampNeg = i := nI_clamp (by omega)
  -- a thing, by the first value
  have ref : ∀ so, (so = 1 ∨ so = 3 ∨ so = 5) → sg 12 i = so → ∃ r : Int32, (r = 0 ∨ r = 1) ∧ f_t_suits (dT S t + 2 + f) (nI mv) c = some (r, c) ∧ (∀ g, MSm c g → f_m_fits (nI i) (nI mv) g = some (r, g)) ∧ (r = 1 → (sg 12 i = 0 → mv = 1) ∧ (sg 12 i = 2 → mv = sg 7 (sg 13 i)) ∧ (sg 12 i = 4 → mv = 2 ∧ TG c n tc (hj c 6 1)) ∧ (sg 12 i = 1 ∨ sg 12 i = 3 ∨ sg 12 i = 5 → mv = 1 ∧ TG c n tc (hj c 6 0))) := by
    intro so hso es
    have cl : ∀ X : Option (Int32 × XH), b_t_suits_150 (dT S t + 2 + f) (nI mv) c = X → f_t_suits (dT S t + 2 + f) (nI mv) c = X := by
      intro X q
      unfold f_t_suits
      rw [i3, es]
      refine o_pos ⟨f1, f2⟩ ?_
      rcases hso with z | z | z <;> subst z
      · exact o_neg (by decide) (o_pos rfl q)
      · exact o_neg (by decide) (o_neg (by decide) (o_neg (by decide) (o_pos rfl q)))
      · exact o_neg (by decide) (o_neg (by decide) (o_neg (by decide) (o_neg (by decide) (o_neg (by decide) q))))
    have ml : ∀ g, MSm c g → ∀ X : Option (Int32 × XH), (if ¬ nI mv = 1 then (some (0, g)) else (Option.bind (f_m_isThing (hj c 1298 0) (nI so) (nI (sg 14 i) - 1) (nI (sg 13 i)) g) fun r13 => (if r13.1 = 0 then (some (0, r13.2)) else (some (1, r13.2))))) = X → f_m_fits (nI i) (nI mv) g = X := by
      intro g Q X q
      obtain ⟨m2, m3, m4, m5, m6, m7⟩ := mf g Q
      unfold f_m_fits
      rw [ci, m2, m3, m4, es, cz, Q.2.1 1298 (by decide)]
      refine o_pos (by (first | (simp (maxSteps := 4000000) (disch := omega) only [n_0, n_1, n_2, n_3, n_4, n_5, n_6, n_7, n_8, n_9, n_10, n_11, n_12, n_13, n_14, n_15, n_16, n_18, n_20, n_24, n_31, n_32, n_34, n_40, n_41, n_44, n_45, n_47, n_48, n_57, n_58, n_59, n_61, n_63, n_64, n_65, n_68, n_90, n_91, n_93, n_95, n_97, n_100, n_122, n_123, n_125, n_128, n_144, n_200, n_255, n_256, n_300, n_400, n_600, n_1536, n_3980, n_4000, n_4001, n_4300, n_65536, l_0, l_1, l_2, l_3, l_4, l_10, l_48, l_63, l_255, l_300, nI_ltI, nI_leI, nI_eq, nI_clamp, nI_add, pk_sub, pk_mul, nI_ne1, ne1_nI, nI_pge, nI_nlt0, nI_l, lN_i, lN_add, lN_mul, lN_sub, pk_lLT, pk_lLE, pk_lEQ, lg_lt, lg_ge, lg_eq0, lg_le, lg_gt, lg_ltn, lg_gen, lg_eq0n, lg_len, lg_gtn, Nat.zero_le, Nat.not_lt_zero, not_false_eq_true, not_true_eq_false, true_and, and_true]; done) | (simp (maxSteps := 4000000) (disch := omega) only [n_0, n_1, n_2, n_3, n_4, n_5, n_6, n_7, n_8, n_9, n_10, n_11, n_12, n_13, n_14, n_15, n_16, n_18, n_20, n_24, n_31, n_32, n_34, n_40, n_41, n_44, n_45, n_47, n_48, n_57, n_58, n_59, n_61, n_63, n_64, n_65, n_68, n_90, n_91, n_93, n_95, n_97, n_100, n_122, n_123, n_125, n_128, n_144, n_200, n_255, n_256, n_300, n_400, n_600, n_1536, n_3980, n_4000, n_4001, n_4300, n_65536, l_0, l_1, l_2, l_3, l_4, l_10, l_48, l_63, l_255, l_300, nI_ltI, nI_leI, nI_eq, nI_clamp, nI_add, pk_sub, pk_mul, nI_ne1, ne1_nI, nI_pge, nI_nlt0, nI_l, lN_i, lN_add, lN_mul, lN_sub, pk_lLT, pk_lLE, pk_lEQ, lg_lt, lg_ge, lg_eq0, lg_le, lg_gt, lg_ltn, lg_gen, lg_eq0n, lg_len, lg_gtn, Nat.zero_le, Nat.not_lt_zero, not_false_eq_true, not_true_eq_false, true_and, and_true]; omega) | omega)) ?_
      rcases hso with z | z | z <;> subst z
      · exact o_pos (by decide) (o_pos (by decide) (o_pos (by decide) q))
      · exact o_pos (by decide) (o_pos (by decide) (o_pos (by decide) q))
      · exact o_pos (by decide) (o_pos (by decide) (o_pos (by decide) q))
    by_cases c1 : mv = 1
    · have n1 : ¬ ¬ nI mv = 1 := by rw [c1]; exact not_not_intro rfl
      obtain ⟨r, k1, k2, k3, k4⟩ := thing3 b3 (hj c 6 0) (nI so) (nI (sg 13 i)) (nI (sg 14 i) - 1)
      refine ⟨r, k1, ?_, fun g Q => ?_, fun q => ⟨fun z => by omega, fun z => by omega, fun z => by omega, fun _ => ⟨c1, k4 q⟩⟩⟩
      · refine cl _ ?_
        unfold b_t_suits_150
        refine o_neg n1 (o_bind (e_w_at L (k := 0) (by decide)) (o_pos ⟨f1, f2⟩ ?_))
        dsimp only
        rw [i3, i4, i5, es]
        refine o_bind k2 ?_
        rcases k1 with z | z <;> subst z
        · exact o_pos rfl rfl
        · exact o_neg one0 rfl
      · refine ml g Q _ (o_neg n1 ?_)
        rw [← w3 0 (by omega)]
        refine o_bind (k3 g Q) ?_
        rcases k1 with z | z <;> subst z
        · exact o_pos rfl rfl
        · exact o_neg one0 rfl
    · have n1 : ¬ nI mv = 1 := show ¬ nI mv = nI 1 by (first | (simp (maxSteps := 4000000) (disch := omega) only [n_0, n_1, n_2, n_3, n_4, n_5, n_6, n_7, n_8, n_9, n_10, n_11, n_12, n_13, n_14, n_15, n_16, n_18, n_20, n_24, n_31, n_32, n_34, n_40, n_41, n_44, n_45, n_47, n_48, n_57, n_58, n_59, n_61, n_63, n_64, n_65, n_68, n_90, n_91, n_93, n_95, n_97, n_100, n_122, n_123, n_125, n_128, n_144, n_200, n_255, n_256, n_300, n_400, n_600, n_1536, n_3980, n_4000, n_4001, n_4300, n_65536, l_0, l_1, l_2, l_3, l_4, l_10, l_48, l_63, l_255, l_300, nI_ltI, nI_leI, nI_eq, nI_clamp, nI_add, pk_sub, pk_mul, nI_ne1, ne1_nI, nI_pge, nI_nlt0, nI_l, lN_i, lN_add, lN_mul, lN_sub, pk_lLT, pk_lLE, pk_lEQ, lg_lt, lg_ge, lg_eq0, lg_le, lg_gt, lg_ltn, lg_gen, lg_eq0n, lg_len, lg_gtn, Nat.zero_le, Nat.not_lt_zero, not_false_eq_true, not_true_eq_false, true_and, and_true]; done) | (simp (maxSteps := 4000000) (disch := omega) only [n_0, n_1, n_2, n_3, n_4, n_5, n_6, n_7, n_8, n_9, n_10, n_11, n_12, n_13, n_14, n_15, n_16, n_18, n_20, n_24, n_31, n_32, n_34, n_40, n_41, n_44, n_45, n_47, n_48, n_57, n_58, n_59, n_61, n_63, n_64, n_65, n_68, n_90, n_91, n_93, n_95, n_97, n_100, n_122, n_123, n_125, n_128, n_144, n_200, n_255, n_256, n_300, n_400, n_600, n_1536, n_3980, n_4000, n_4001, n_4300, n_65536, l_0, l_1, l_2, l_3, l_4, l_10, l_48, l_63, l_255, l_300, nI_ltI, nI_leI, nI_eq, nI_clamp, nI_add, pk_sub, pk_mul, nI_ne1, ne1_nI, nI_pge, nI_nlt0, nI_l, lN_i, lN_add, lN_mul, lN_sub, pk_lLT, pk_lLE, pk_lEQ, lg_lt, lg_ge, lg_eq0, lg_le, lg_gt, lg_ltn, lg_gen, lg_eq0n, lg_len, lg_gtn, Nat.zero_le, Nat.not_lt_zero, not_false_eq_true, not_true_eq_false, true_and, and_true]; omega) | omega)
      exact ⟨0, Or.inl rfl, cl _ (by unfold b_t_suits_150; exact o_pos n1 rfl), fun g Q => ml g Q _ (o_pos n1 rfl), fun q => absurd q (by decide)⟩
  rcases wk with ⟨e4, eo⟩ | ⟨n4, n5, ⟨es, eo⟩ | ⟨es, eo⟩ | ⟨es, eo⟩ | ⟨es, eo⟩⟩ | ⟨es, -⟩
  · -- a union
    have wu := W.2.2.2 _ eo
    have Du := sc.ddU (Nat.lt_of_lt_of_le eo W.1.2.2.1)
    have du1 : dU S (sg 13 i) < hz c := by have := Du.1; omega
    have du5 := Du.2.2.2.2.1
    have cl : ∀ X : Option (Int32 × XH), (if ¬ nI mv = 2 then (some (0, c)) else (Option.bind (f_t_suitsUnion (dU S (sg 13 i)) c) fun r61 => (if r61.1 = 0 then (some (0, r61.2)) else (some (1, r61.2))))) = X → f_t_suits (dT S t + 2 + f) (nI mv) c = X := by
      intro X q
      unfold f_t_suits
      rw [i3, i4, e4]
      refine o_pos ⟨f1, f2⟩ (o_neg (by decide) (o_neg (by decide) (o_neg (by decide) (o_neg (by decide) (o_pos rfl ?_)))))
      rw [← q]
      by_cases c2 : nI mv = 2
      · rw [if_neg (not_not_intro c2), if_neg (not_not_intro c2)]
        exact o_bind r4 (o_pos ⟨s1, k9⟩ (o_bind sc.2.2.2.2.2.1 (o_pos ⟨uu1, uu2⟩ (o_bind (C.atU W eo) (o_bind rfl rfl)))))
      · rw [if_pos c2, if_pos c2]
    have ml : ∀ g, MSm c g → ∀ X : Option (Int32 × XH), (if ¬ nI mv = 2 then (b_m_fits_127 (nI i) g) else (if (lg_cmp (hj c 1298 0) (1 : Int64)) < 0 then (b_m_fits_127 (nI i) g) else (if 0 < (lg_cmp (hj c 1298 0) (Int32.toInt64 (nI (sg 17 (sg 13 i))))) then (b_m_fits_127 (nI i) g) else (b_m_fits_128 (nI i) 1 g)))) = X → f_m_fits (nI i) (nI mv) g = X := by
      intro g Q X q
      obtain ⟨m2, m3, m4, m5, m6, m7⟩ := mf g Q
      have m17 := ((Q.ms M).2.2.2 _ eo).1
      unfold f_m_fits
      rw [ci, m2, m3, e4, cz, Q.2.1 1298 (by decide), nI_clamp (show sg 13 i < 2 ^ 31 by omega), m17]
      refine o_pos (by (first | (simp (maxSteps := 4000000) (disch := omega) only [n_0, n_1, n_2, n_3, n_4, n_5, n_6, n_7, n_8, n_9, n_10, n_11, n_12, n_13, n_14, n_15, n_16, n_18, n_20, n_24, n_31, n_32, n_34, n_40, n_41, n_44, n_45, n_47, n_48, n_57, n_58, n_59, n_61, n_63, n_64, n_65, n_68, n_90, n_91, n_93, n_95, n_97, n_100, n_122, n_123, n_125, n_128, n_144, n_200, n_255, n_256, n_300, n_400, n_600, n_1536, n_3980, n_4000, n_4001, n_4300, n_65536, l_0, l_1, l_2, l_3, l_4, l_10, l_48, l_63, l_255, l_300, nI_ltI, nI_leI, nI_eq, nI_clamp, nI_add, pk_sub, pk_mul, nI_ne1, ne1_nI, nI_pge, nI_nlt0, nI_l, lN_i, lN_add, lN_mul, lN_sub, pk_lLT, pk_lLE, pk_lEQ, lg_lt, lg_ge, lg_eq0, lg_le, lg_gt, lg_ltn, lg_gen, lg_eq0n, lg_len, lg_gtn, Nat.zero_le, Nat.not_lt_zero, not_false_eq_true, not_true_eq_false, true_and, and_true]; done) | (simp (maxSteps := 4000000) (disch := omega) only [n_0, n_1, n_2, n_3, n_4, n_5, n_6, n_7, n_8, n_9, n_10, n_11, n_12, n_13, n_14, n_15, n_16, n_18, n_20, n_24, n_31, n_32, n_34, n_40, n_41, n_44, n_45, n_47, n_48, n_57, n_58, n_59, n_61, n_63, n_64, n_65, n_68, n_90, n_91, n_93, n_95, n_97, n_100, n_122, n_123, n_125, n_128, n_144, n_200, n_255, n_256, n_300, n_400, n_600, n_1536, n_3980, n_4000, n_4001, n_4300, n_65536, l_0, l_1, l_2, l_3, l_4, l_10, l_48, l_63, l_255, l_300, nI_ltI, nI_leI, nI_eq, nI_clamp, nI_add, pk_sub, pk_mul, nI_ne1, ne1_nI, nI_pge, nI_nlt0, nI_l, lN_i, lN_add, lN_mul, lN_sub, pk_lLT, pk_lLE, pk_lEQ, lg_lt, lg_ge, lg_eq0, lg_le, lg_gt, lg_ltn, lg_gen, lg_eq0n, lg_len, lg_gtn, Nat.zero_le, Nat.not_lt_zero, not_false_eq_true, not_true_eq_false, true_and, and_true]; omega) | omega)) (o_pos (by decide) (o_pos (by decide) (o_neg (not_not_intro rfl) ?_)))
      rw [← q]
      by_cases c2 : nI mv = 2
      · rw [if_neg (not_not_intro c2), if_neg (not_not_intro c2)]
        by_cases c3 : lg_cmp (hj c 1298 0) 1 < 0
        · rw [if_pos c3, if_pos c3]
        · rw [if_neg c3, if_neg c3]
          exact o_pos (by (first | (simp (maxSteps := 4000000) (disch := omega) only [n_0, n_1, n_2, n_3, n_4, n_5, n_6, n_7, n_8, n_9, n_10, n_11, n_12, n_13, n_14, n_15, n_16, n_18, n_20, n_24, n_31, n_32, n_34, n_40, n_41, n_44, n_45, n_47, n_48, n_57, n_58, n_59, n_61, n_63, n_64, n_65, n_68, n_90, n_91, n_93, n_95, n_97, n_100, n_122, n_123, n_125, n_128, n_144, n_200, n_255, n_256, n_300, n_400, n_600, n_1536, n_3980, n_4000, n_4001, n_4300, n_65536, l_0, l_1, l_2, l_3, l_4, l_10, l_48, l_63, l_255, l_300, nI_ltI, nI_leI, nI_eq, nI_clamp, nI_add, pk_sub, pk_mul, nI_ne1, ne1_nI, nI_pge, nI_nlt0, nI_l, lN_i, lN_add, lN_mul, lN_sub, pk_lLT, pk_lLE, pk_lEQ, lg_lt, lg_ge, lg_eq0, lg_le, lg_gt, lg_ltn, lg_gen, lg_eq0n, lg_len, lg_gtn, Nat.zero_le, Nat.not_lt_zero, not_false_eq_true, not_true_eq_false, true_and, and_true]; done) | (simp (maxSteps := 4000000) (disch := omega) only [n_0, n_1, n_2, n_3, n_4, n_5, n_6, n_7, n_8, n_9, n_10, n_11, n_12, n_13, n_14, n_15, n_16, n_18, n_20, n_24, n_31, n_32, n_34, n_40, n_41, n_44, n_45, n_47, n_48, n_57, n_58, n_59, n_61, n_63, n_64, n_65, n_68, n_90, n_91, n_93, n_95, n_97, n_100, n_122, n_123, n_125, n_128, n_144, n_200, n_255, n_256, n_300, n_400, n_600, n_1536, n_3980, n_4000, n_4001, n_4300, n_65536, l_0, l_1, l_2, l_3, l_4, l_10, l_48, l_63, l_255, l_300, nI_ltI, nI_leI, nI_eq, nI_clamp, nI_add, pk_sub, pk_mul, nI_ne1, ne1_nI, nI_pge, nI_nlt0, nI_l, lN_i, lN_add, lN_mul, lN_sub, pk_lLT, pk_lLE, pk_lEQ, lg_lt, lg_ge, lg_eq0, lg_le, lg_gt, lg_ltn, lg_gen, lg_eq0n, lg_len, lg_gtn, Nat.zero_le, Nat.not_lt_zero, not_false_eq_true, not_true_eq_false, true_and, and_true]; omega) | omega)) rfl
      · rw [if_pos c2, if_pos c2]
    have no127 : ∀ g, b_m_fits_127 (nI i) g = some (0, g) := fun g => by unfold b_m_fits_127 b_m_fits_128; exact o_pos rfl rfl
    by_cases c2 : mv = 2
    · have n2 : ¬ ¬ nI mv = 2 := by rw [c2]; exact not_not_intro rfl
      have l1 : (1 : Int64) = lN 1 := rfl
      have su : ∀ X : Option (Int32 × XH), (if (lg_cmp (hj c 6 0) (1 : Int64)) < 0 then (some (0, c)) else (if (lg_cmp (hj c 6 0) (lN (sg 17 (sg 13 i)))) ≤ 0 then (Option.bind (f_d_fieldAt (dU S (sg 13 i)) ((Int64.toInt32 (hj c 6 0)) - 1) c) fun r7 => (Option.elim (r7.1) (some (0, r7.2)) fun b11 => (Option.bind (f_w_at 5 1 r7.2) fun r12 => (if b11 < hz r12.2 ∧ hk r12.2 b11 = 3 then (Option.bind (f_u_isThing r12.1 3 (hi r12.2 b11 4) (-1) r12.2) fun r16 => (if r16.1 = 0 then (some (0, r16.2)) else (some (1, r16.2)))) else none)))) else (some (0, c)))) = X → f_t_suitsUnion (dU S (sg 13 i)) c = X := by
        intro X q
        unfold f_t_suitsUnion
        refine o_bind (e_w_at L (k := 0) (by decide)) ?_
        dsimp only
        rw [(C.2.2.2.2 _ eo).1, nI_l (show sg 17 (sg 13 i) < 2 ^ 31 by omega), ← q]
        by_cases c3 : lg_cmp (hj c 6 0) 1 < 0
        · rw [if_pos c3, if_pos c3]
        · rw [if_neg c3, if_neg c3]
          exact o_pos ⟨du1, du5⟩ rfl
      have mlu := fun (g : XH) (Q : MSm c g) => ml g Q
      rw [nI_l (show sg 17 (sg 13 i) < 2 ^ 31 by omega), ← w3 0 (by omega)] at mlu
      rcases x64 (hj c 6 0) (sg 17 (sg 13 i) + 1) (by omega) with q | q | ⟨j, hj', ej⟩
      · have lt : lg_cmp (hj c 6 0) 1 < 0 := by
          rw [lg_lt, i64_lt]
          rw [i64_lt] at q
          have e0 : (0 : Int64).toInt = 0 := by decide
          have e1 : (1 : Int64).toInt = 1 := by decide
          omega
        exact ⟨0, Or.inl rfl, cl _ (o_neg n2 (o_bind (su _ (o_pos lt rfl)) (o_pos rfl rfl))), fun g Q => mlu g Q _ (o_neg n2 (o_pos lt (no127 g))), fun q => absurd q (by decide)⟩
      · rw [i64_le, pk_lT (by omega)] at q
        have nlt : ¬ lg_cmp (hj c 6 0) 1 < 0 := by
          rw [lg_lt, i64_lt]
          have e1 : (1 : Int64).toInt = 1 := by decide
          omega
        have gt : 0 < lg_cmp (hj c 6 0) (lN (sg 17 (sg 13 i))) := by
          rw [lg_gt, i64_lt, pk_lT (by omega)]
          omega
        have ngt : ¬ lg_cmp (hj c 6 0) (lN (sg 17 (sg 13 i))) ≤ 0 := by
          rw [lg_le, i64_le, pk_lT (by omega)]
          omega
        exact ⟨0, Or.inl rfl, cl _ (o_neg n2 (o_bind (su _ (o_neg nlt (o_neg ngt rfl))) (o_pos rfl rfl))), fun g Q => mlu g Q _ (o_neg n2 (o_neg nlt (o_pos gt (no127 g)))), fun q => absurd q (by decide)⟩
      · rw [ej] at su mlu
        by_cases j0 : j = 0
        · subst j0
          have lt : lg_cmp (lN 0) 1 < 0 := by decide
          exact ⟨0, Or.inl rfl, cl _ (o_neg n2 (o_bind (su _ (o_pos lt rfl)) (o_pos rfl rfl))), fun g Q => mlu g Q _ (o_neg n2 (o_pos lt (no127 g))), fun q => absurd q (by decide)⟩
        · have nlt : ¬ lg_cmp (lN j) 1 < 0 := by rw [lg_lt, l1, pk_lLT (by omega) (by omega)]; omega
          have ngt : ¬ 0 < lg_cmp (lN j) (lN (sg 17 (sg 13 i))) := by rw [lg_gt, pk_lLT (by omega) (by omega)]; omega
          have le : lg_cmp (lN j) (lN (sg 17 (sg 13 i))) ≤ 0 := by rw [lg_le, pk_lLE (by omega) (by omega)]; omega
          have jm : j - 1 < sg 17 (sg 13 i) := by omega
          have fa := C.fU W eo jm
          have fm := (Du.2.2.2.2.2.2.2.2.1 (j - 1) (by omega)).2
          have fl : dU S (sg 13 i) + 2 + (j - 1) < hz c := by have := Du.1; omega
          have e18 := (C.2.2.2.2 _ eo).2 (j - 1) jm
          obtain ⟨r, k1, k2, k3, k4⟩ := thing3 b3 (hj c 6 1) 3 (nI (sg 18 (8 * sg 13 i + (j - 1)))) (-1)
          refine ⟨r, k1, ?_, fun g Q => ?_, fun q => ⟨fun z => by omega, fun z => by omega, fun _ => ⟨c2, k4 q⟩, fun z => by omega⟩⟩
          · refine cl _ (o_neg n2 (o_bind (v := (r, c)) (su _ (o_neg nlt (o_pos le ?_))) ?_))
            · rw [lN_i, n_1, pk_sub (by omega)]
              refine o_bind fa (o_elim (o_bind (e_w_at L (k := 1) (by decide)) (o_pos ⟨fl, fm⟩ ?_)))
              dsimp only
              rw [e18]
              refine o_bind k2 ?_
              rcases k1 with z | z <;> subst z
              · exact o_pos rfl rfl
              · exact o_neg one0 rfl
            · rcases k1 with z | z <;> subst z
              · exact o_pos rfl rfl
              · exact o_neg one0 rfl
          · refine mlu g Q _ (o_neg n2 (o_neg nlt (o_neg ngt ?_)))
            obtain ⟨m2, m3, m4, m5, m6, m7⟩ := mf g Q
            have m18 := ((Q.ms M).2.2.2 _ eo).2 (j - 1) jm
            unfold b_m_fits_128
            rw [ci, m3, cz, c1', Q.2.1 1298 (by decide), ← w3 0 (by omega), ← w3 1 (by omega), ej, lN_i, n_8, pk_mul, nI_add, n_1, pk_sub (by omega), show 8 * sg 13 i + j - 1 = 8 * sg 13 i + (j - 1) by omega, nI_clamp (show 8 * sg 13 i + (j - 1) < 2 ^ 31 by omega), m18]
            refine o_neg (by decide) (o_pos (by (first | (simp (maxSteps := 4000000) (disch := omega) only [n_0, n_1, n_2, n_3, n_4, n_5, n_6, n_7, n_8, n_9, n_10, n_11, n_12, n_13, n_14, n_15, n_16, n_18, n_20, n_24, n_31, n_32, n_34, n_40, n_41, n_44, n_45, n_47, n_48, n_57, n_58, n_59, n_61, n_63, n_64, n_65, n_68, n_90, n_91, n_93, n_95, n_97, n_100, n_122, n_123, n_125, n_128, n_144, n_200, n_255, n_256, n_300, n_400, n_600, n_1536, n_3980, n_4000, n_4001, n_4300, n_65536, l_0, l_1, l_2, l_3, l_4, l_10, l_48, l_63, l_255, l_300, nI_ltI, nI_leI, nI_eq, nI_clamp, nI_add, pk_sub, pk_mul, nI_ne1, ne1_nI, nI_pge, nI_nlt0, nI_l, lN_i, lN_add, lN_mul, lN_sub, pk_lLT, pk_lLE, pk_lEQ, lg_lt, lg_ge, lg_eq0, lg_le, lg_gt, lg_ltn, lg_gen, lg_eq0n, lg_len, lg_gtn, Nat.zero_le, Nat.not_lt_zero, not_false_eq_true, not_true_eq_false, true_and, and_true]; done) | (simp (maxSteps := 4000000) (disch := omega) only [n_0, n_1, n_2, n_3, n_4, n_5, n_6, n_7, n_8, n_9, n_10, n_11, n_12, n_13, n_14, n_15, n_16, n_18, n_20, n_24, n_31, n_32, n_34, n_40, n_41, n_44, n_45, n_47, n_48, n_57, n_58, n_59, n_61, n_63, n_64, n_65, n_68, n_90, n_91, n_93, n_95, n_97, n_100, n_122, n_123, n_125, n_128, n_144, n_200, n_255, n_256, n_300, n_400, n_600, n_1536, n_3980, n_4000, n_4001, n_4300, n_65536, l_0, l_1, l_2, l_3, l_4, l_10, l_48, l_63, l_255, l_300, nI_ltI, nI_leI, nI_eq, nI_clamp, nI_add, pk_sub, pk_mul, nI_ne1, ne1_nI, nI_pge, nI_nlt0, nI_l, lN_i, lN_add, lN_mul, lN_sub, pk_lLT, pk_lLE, pk_lEQ, lg_lt, lg_ge, lg_eq0, lg_le, lg_gt, lg_ltn, lg_gen, lg_eq0n, lg_len, lg_gtn, Nat.zero_le, Nat.not_lt_zero, not_false_eq_true, not_true_eq_false, true_and, and_true]; omega) | omega)) (o_pos (by (first | (simp (maxSteps := 4000000) (disch := omega) only [n_0, n_1, n_2, n_3, n_4, n_5, n_6, n_7, n_8, n_9, n_10, n_11, n_12, n_13, n_14, n_15, n_16, n_18, n_20, n_24, n_31, n_32, n_34, n_40, n_41, n_44, n_45, n_47, n_48, n_57, n_58, n_59, n_61, n_63, n_64, n_65, n_68, n_90, n_91, n_93, n_95, n_97, n_100, n_122, n_123, n_125, n_128, n_144, n_200, n_255, n_256, n_300, n_400, n_600, n_1536, n_3980, n_4000, n_4001, n_4300, n_65536, l_0, l_1, l_2, l_3, l_4, l_10, l_48, l_63, l_255, l_300, nI_ltI, nI_leI, nI_eq, nI_clamp, nI_add, pk_sub, pk_mul, nI_ne1, ne1_nI, nI_pge, nI_nlt0, nI_l, lN_i, lN_add, lN_mul, lN_sub, pk_lLT, pk_lLE, pk_lEQ, lg_lt, lg_ge, lg_eq0, lg_le, lg_gt, lg_ltn, lg_gen, lg_eq0n, lg_len, lg_gtn, Nat.zero_le, Nat.not_lt_zero, not_false_eq_true, not_true_eq_false, true_and, and_true]; done) | (simp (maxSteps := 4000000) (disch := omega) only [n_0, n_1, n_2, n_3, n_4, n_5, n_6, n_7, n_8, n_9, n_10, n_11, n_12, n_13, n_14, n_15, n_16, n_18, n_20, n_24, n_31, n_32, n_34, n_40, n_41, n_44, n_45, n_47, n_48, n_57, n_58, n_59, n_61, n_63, n_64, n_65, n_68, n_90, n_91, n_93, n_95, n_97, n_100, n_122, n_123, n_125, n_128, n_144, n_200, n_255, n_256, n_300, n_400, n_600, n_1536, n_3980, n_4000, n_4001, n_4300, n_65536, l_0, l_1, l_2, l_3, l_4, l_10, l_48, l_63, l_255, l_300, nI_ltI, nI_leI, nI_eq, nI_clamp, nI_add, pk_sub, pk_mul, nI_ne1, ne1_nI, nI_pge, nI_nlt0, nI_l, lN_i, lN_add, lN_mul, lN_sub, pk_lLT, pk_lLE, pk_lEQ, lg_lt, lg_ge, lg_eq0, lg_le, lg_gt, lg_ltn, lg_gen, lg_eq0n, lg_len, lg_gtn, Nat.zero_le, Nat.not_lt_zero, not_false_eq_true, not_true_eq_false, true_and, and_true]; omega) | omega)) (o_bind (k3 g Q) ?_)))
            rcases k1 with z | z <;> subst z
            · exact o_pos rfl rfl
            · exact o_neg one0 rfl
    · have n2 : ¬ nI mv = 2 := show ¬ nI mv = nI 2 by (first | (simp (maxSteps := 4000000) (disch := omega) only [n_0, n_1, n_2, n_3, n_4, n_5, n_6, n_7, n_8, n_9, n_10, n_11, n_12, n_13, n_14, n_15, n_16, n_18, n_20, n_24, n_31, n_32, n_34, n_40, n_41, n_44, n_45, n_47, n_48, n_57, n_58, n_59, n_61, n_63, n_64, n_65, n_68, n_90, n_91, n_93, n_95, n_97, n_100, n_122, n_123, n_125, n_128, n_144, n_200, n_255, n_256, n_300, n_400, n_600, n_1536, n_3980, n_4000, n_4001, n_4300, n_65536, l_0, l_1, l_2, l_3, l_4, l_10, l_48, l_63, l_255, l_300, nI_ltI, nI_leI, nI_eq, nI_clamp, nI_add, pk_sub, pk_mul, nI_ne1, ne1_nI, nI_pge, nI_nlt0, nI_l, lN_i, lN_add, lN_mul, lN_sub, pk_lLT, pk_lLE, pk_lEQ, lg_lt, lg_ge, lg_eq0, lg_le, lg_gt, lg_ltn, lg_gen, lg_eq0n, lg_len, lg_gtn, Nat.zero_le, Nat.not_lt_zero, not_false_eq_true, not_true_eq_false, true_and, and_true]; done) | (simp (maxSteps := 4000000) (disch := omega) only [n_0, n_1, n_2, n_3, n_4, n_5, n_6, n_7, n_8, n_9, n_10, n_11, n_12, n_13, n_14, n_15, n_16, n_18, n_20, n_24, n_31, n_32, n_34, n_40, n_41, n_44, n_45, n_47, n_48, n_57, n_58, n_59, n_61, n_63, n_64, n_65, n_68, n_90, n_91, n_93, n_95, n_97, n_100, n_122, n_123, n_125, n_128, n_144, n_200, n_255, n_256, n_300, n_400, n_600, n_1536, n_3980, n_4000, n_4001, n_4300, n_65536, l_0, l_1, l_2, l_3, l_4, l_10, l_48, l_63, l_255, l_300, nI_ltI, nI_leI, nI_eq, nI_clamp, nI_add, pk_sub, pk_mul, nI_ne1, ne1_nI, nI_pge, nI_nlt0, nI_l, lN_i, lN_add, lN_mul, lN_sub, pk_lLT, pk_lLE, pk_lEQ, lg_lt, lg_ge, lg_eq0, lg_le, lg_gt, lg_ltn, lg_gen, lg_eq0n, lg_len, lg_gtn, Nat.zero_le, Nat.not_lt_zero, not_false_eq_true, not_true_eq_false, true_and, and_true]; omega) | omega)
      exact ⟨0, Or.inl rfl, cl _ (o_pos n2 rfl), fun g Q => ml g Q _ (o_pos n2 (no127 g)), fun q => absurd q (by decide)⟩
  · -- a scalar
    have cl : ∀ X : Option (Int32 × XH), (if ¬ nI mv = 1 then (some (0, c)) else (Option.bind (f_t_isValue (nI (sg 13 i)) (hj c 6 0) c) fun r16 => (if r16.1 = 0 then (some (0, r16.2)) else (some (1, r16.2))))) = X → f_t_suits (dT S t + 2 + f) (nI mv) c = X := by
      intro X q
      unfold f_t_suits
      rw [i3, i4, es]
      refine o_pos ⟨f1, f2⟩ (o_pos rfl ?_)
      rw [← q]
      by_cases c2 : nI mv = 1
      · rw [if_neg (not_not_intro c2), if_neg (not_not_intro c2)]
        exact o_bind (e_w_at L (k := 0) (by decide)) rfl
      · rw [if_pos c2, if_pos c2]
    have ml : ∀ g, MSm c g → ∀ X : Option (Int32 × XH), (if ¬ nI mv = 1 then (some (0, g)) else (Option.bind (f_m_isValue (nI (sg 13 i)) (hj c 1298 0) g) fun r28 => (if r28.1 = 0 then (some (0, r28.2)) else (some (1, r28.2))))) = X → f_m_fits (nI i) (nI mv) g = X := by
      intro g Q X q
      obtain ⟨m2, m3, m4, m5, m6, m7⟩ := mf g Q
      unfold f_m_fits
      rw [ci, m2, m3, es, cz, Q.2.1 1298 (by decide)]
      exact o_pos (by (first | (simp (maxSteps := 4000000) (disch := omega) only [n_0, n_1, n_2, n_3, n_4, n_5, n_6, n_7, n_8, n_9, n_10, n_11, n_12, n_13, n_14, n_15, n_16, n_18, n_20, n_24, n_31, n_32, n_34, n_40, n_41, n_44, n_45, n_47, n_48, n_57, n_58, n_59, n_61, n_63, n_64, n_65, n_68, n_90, n_91, n_93, n_95, n_97, n_100, n_122, n_123, n_125, n_128, n_144, n_200, n_255, n_256, n_300, n_400, n_600, n_1536, n_3980, n_4000, n_4001, n_4300, n_65536, l_0, l_1, l_2, l_3, l_4, l_10, l_48, l_63, l_255, l_300, nI_ltI, nI_leI, nI_eq, nI_clamp, nI_add, pk_sub, pk_mul, nI_ne1, ne1_nI, nI_pge, nI_nlt0, nI_l, lN_i, lN_add, lN_mul, lN_sub, pk_lLT, pk_lLE, pk_lEQ, lg_lt, lg_ge, lg_eq0, lg_le, lg_gt, lg_ltn, lg_gen, lg_eq0n, lg_len, lg_gtn, Nat.zero_le, Nat.not_lt_zero, not_false_eq_true, not_true_eq_false, true_and, and_true]; done) | (simp (maxSteps := 4000000) (disch := omega) only [n_0, n_1, n_2, n_3, n_4, n_5, n_6, n_7, n_8, n_9, n_10, n_11, n_12, n_13, n_14, n_15, n_16, n_18, n_20, n_24, n_31, n_32, n_34, n_40, n_41, n_44, n_45, n_47, n_48, n_57, n_58, n_59, n_61, n_63, n_64, n_65, n_68, n_90, n_91, n_93, n_95, n_97, n_100, n_122, n_123, n_125, n_128, n_144, n_200, n_255, n_256, n_300, n_400, n_600, n_1536, n_3980, n_4000, n_4001, n_4300, n_65536, l_0, l_1, l_2, l_3, l_4, l_10, l_48, l_63, l_255, l_300, nI_ltI, nI_leI, nI_eq, nI_clamp, nI_add, pk_sub, pk_mul, nI_ne1, ne1_nI, nI_pge, nI_nlt0, nI_l, lN_i, lN_add, lN_mul, lN_sub, pk_lLT, pk_lLE, pk_lEQ, lg_lt, lg_ge, lg_eq0, lg_le, lg_gt, lg_ltn, lg_gen, lg_eq0n, lg_len, lg_gtn, Nat.zero_le, Nat.not_lt_zero, not_false_eq_true, not_true_eq_false, true_and, and_true]; omega) | omega)) (o_neg (not_not_intro rfl) q)
    by_cases c1 : mv = 1
    · have n1 : ¬ ¬ nI mv = 1 := by rw [c1]; exact not_not_intro rfl
      obtain ⟨r1, p1, p2, p3⟩ := e_t_isValue (h := c) (v := hj c 6 0) eo
      have r01 : r1 = 0 ∨ r1 = 1 := by
        rcases Classical.em (vV (sg 13 i) (hj c 6 0)) with q | q
        · exact Or.inr (p1 q)
        · exact Or.inl (p2 q)
      refine ⟨r1, r01, cl _ (o_neg n1 (o_bind p3 ?_)), fun g Q => ml g Q _ (o_neg n1 ?_), fun q => ⟨fun _ => c1, fun z => by omega, fun z => by omega, fun z => by omega⟩⟩
      · rcases r01 with z | z <;> subst z
        · exact o_pos rfl rfl
        · exact o_neg one0 rfl
      · obtain ⟨r2, s1', s2, s3⟩ := e_m_isValue (h := g) (v := hj c 6 0) eo
        have e12 : r2 = r1 := by
          rcases Classical.em (vV (sg 13 i) (hj c 6 0)) with q | q
          · rw [s1' q, p1 q]
          · rw [s2 q, p2 q]
        rw [e12] at s3
        rw [← w3 0 (by omega)]
        refine o_bind s3 ?_
        rcases r01 with z | z <;> subst z
        · exact o_pos rfl rfl
        · exact o_neg one0 rfl
    · have n1 : ¬ nI mv = 1 := show ¬ nI mv = nI 1 by (first | (simp (maxSteps := 4000000) (disch := omega) only [n_0, n_1, n_2, n_3, n_4, n_5, n_6, n_7, n_8, n_9, n_10, n_11, n_12, n_13, n_14, n_15, n_16, n_18, n_20, n_24, n_31, n_32, n_34, n_40, n_41, n_44, n_45, n_47, n_48, n_57, n_58, n_59, n_61, n_63, n_64, n_65, n_68, n_90, n_91, n_93, n_95, n_97, n_100, n_122, n_123, n_125, n_128, n_144, n_200, n_255, n_256, n_300, n_400, n_600, n_1536, n_3980, n_4000, n_4001, n_4300, n_65536, l_0, l_1, l_2, l_3, l_4, l_10, l_48, l_63, l_255, l_300, nI_ltI, nI_leI, nI_eq, nI_clamp, nI_add, pk_sub, pk_mul, nI_ne1, ne1_nI, nI_pge, nI_nlt0, nI_l, lN_i, lN_add, lN_mul, lN_sub, pk_lLT, pk_lLE, pk_lEQ, lg_lt, lg_ge, lg_eq0, lg_le, lg_gt, lg_ltn, lg_gen, lg_eq0n, lg_len, lg_gtn, Nat.zero_le, Nat.not_lt_zero, not_false_eq_true, not_true_eq_false, true_and, and_true]; done) | (simp (maxSteps := 4000000) (disch := omega) only [n_0, n_1, n_2, n_3, n_4, n_5, n_6, n_7, n_8, n_9, n_10, n_11, n_12, n_13, n_14, n_15, n_16, n_18, n_20, n_24, n_31, n_32, n_34, n_40, n_41, n_44, n_45, n_47, n_48, n_57, n_58, n_59, n_61, n_63, n_64, n_65, n_68, n_90, n_91, n_93, n_95, n_97, n_100, n_122, n_123, n_125, n_128, n_144, n_200, n_255, n_256, n_300, n_400, n_600, n_1536, n_3980, n_4000, n_4001, n_4300, n_65536, l_0, l_1, l_2, l_3, l_4, l_10, l_48, l_63, l_255, l_300, nI_ltI, nI_leI, nI_eq, nI_clamp, nI_add, pk_sub, pk_mul, nI_ne1, ne1_nI, nI_pge, nI_nlt0, nI_l, lN_i, lN_add, lN_mul, lN_sub, pk_lLT, pk_lLE, pk_lEQ, lg_lt, lg_ge, lg_eq0, lg_le, lg_gt, lg_ltn, lg_gen, lg_eq0n, lg_len, lg_gtn, Nat.zero_le, Nat.not_lt_zero, not_false_eq_true, not_true_eq_false, true_and, and_true]; omega) | omega)
      exact ⟨0, Or.inl rfl, cl _ (o_pos n1 rfl), fun g Q => ml g Q _ (o_pos n1 rfl), fun q => absurd q (by decide)⟩
  · exact ref 1 (Or.inl rfl) es
  · -- a struct
    have ws := (W.2.1 _ eo).1
    have D := sc.ddS (Nat.lt_of_lt_of_le eo W.1.1)
    have d1 : dS S (sg 13 i) < hz c := by have := D.1; omega
    have d5 := D.2.2.2.2.1
    have lc : f_t_leafCount (some (dS S (sg 13 i))) c = some (nI (sg 7 (sg 13 i)), c) := by
      unfold f_t_leafCount
      refine o_elim (o_pos ⟨d1, d5⟩ ?_)
      rw [(C.2.2.1 _ eo).1.2.2.2]
    have cl : ∀ X : Option (Int32 × XH), (if ¬ nI mv = nI (sg 7 (sg 13 i)) then (some (0, c)) else (Option.bind (f_t_areLeaves (dS S (sg 13 i)) (nI mv) c) fun r45 => (if r45.1 = 0 then (some (0, r45.2)) else (some (1, r45.2))))) = X → f_t_suits (dT S t + 2 + f) (nI mv) c = X := by
      intro X q
      unfold f_t_suits
      rw [i3, i4, es]
      refine o_pos ⟨f1, f2⟩ (o_neg (by decide) (o_neg (by decide) (o_pos rfl (o_bind r4 (o_pos ⟨s1, k9⟩ (o_bind sc.2.2.2.1 (o_pos ⟨us1, us2⟩ (o_bind (C.atS W eo) (o_bind lc ?_)))))))))
      rw [← q]
      by_cases c2 : nI mv = nI (sg 7 (sg 13 i))
      · rw [if_neg (not_not_intro c2), if_neg (not_not_intro c2)]
        refine o_bind r4 (o_pos ⟨s1, k9⟩ (o_bind sc.2.2.2.1 (o_pos ⟨f1, f2⟩ (o_pos ⟨us1, us2⟩ ?_))))
        dsimp only
        rw [i4]
        exact o_bind (C.atS W eo) (o_bind rfl rfl)
      · rw [if_pos c2, if_pos c2]
    have ml : ∀ g, MSm c g → ∀ X : Option (Int32 × XH), (if ¬ nI mv = nI (sg 7 (sg 13 i)) then (some (0, g)) else (Option.bind (f_m_areOfStruct (nI (sg 13 i)) 0 g) fun r23 => (if r23.1 = 0 then (some (0, r23.2)) else (some (1, r23.2))))) = X → f_m_fits (nI i) (nI mv) g = X := by
      intro g Q X q
      obtain ⟨m2, m3, m4, m5, m6, m7⟩ := mf g Q
      have m80 := ((Q.ms M).2.1 _ eo).1.2.2.2
      unfold f_m_fits
      rw [ci, m2, m3, es, nI_clamp (show sg 13 i < 2 ^ 31 by omega), m80]
      exact o_pos (by (first | (simp (maxSteps := 4000000) (disch := omega) only [n_0, n_1, n_2, n_3, n_4, n_5, n_6, n_7, n_8, n_9, n_10, n_11, n_12, n_13, n_14, n_15, n_16, n_18, n_20, n_24, n_31, n_32, n_34, n_40, n_41, n_44, n_45, n_47, n_48, n_57, n_58, n_59, n_61, n_63, n_64, n_65, n_68, n_90, n_91, n_93, n_95, n_97, n_100, n_122, n_123, n_125, n_128, n_144, n_200, n_255, n_256, n_300, n_400, n_600, n_1536, n_3980, n_4000, n_4001, n_4300, n_65536, l_0, l_1, l_2, l_3, l_4, l_10, l_48, l_63, l_255, l_300, nI_ltI, nI_leI, nI_eq, nI_clamp, nI_add, pk_sub, pk_mul, nI_ne1, ne1_nI, nI_pge, nI_nlt0, nI_l, lN_i, lN_add, lN_mul, lN_sub, pk_lLT, pk_lLE, pk_lEQ, lg_lt, lg_ge, lg_eq0, lg_le, lg_gt, lg_ltn, lg_gen, lg_eq0n, lg_len, lg_gtn, Nat.zero_le, Nat.not_lt_zero, not_false_eq_true, not_true_eq_false, true_and, and_true]; done) | (simp (maxSteps := 4000000) (disch := omega) only [n_0, n_1, n_2, n_3, n_4, n_5, n_6, n_7, n_8, n_9, n_10, n_11, n_12, n_13, n_14, n_15, n_16, n_18, n_20, n_24, n_31, n_32, n_34, n_40, n_41, n_44, n_45, n_47, n_48, n_57, n_58, n_59, n_61, n_63, n_64, n_65, n_68, n_90, n_91, n_93, n_95, n_97, n_100, n_122, n_123, n_125, n_128, n_144, n_200, n_255, n_256, n_300, n_400, n_600, n_1536, n_3980, n_4000, n_4001, n_4300, n_65536, l_0, l_1, l_2, l_3, l_4, l_10, l_48, l_63, l_255, l_300, nI_ltI, nI_leI, nI_eq, nI_clamp, nI_add, pk_sub, pk_mul, nI_ne1, ne1_nI, nI_pge, nI_nlt0, nI_l, lN_i, lN_add, lN_mul, lN_sub, pk_lLT, pk_lLE, pk_lEQ, lg_lt, lg_ge, lg_eq0, lg_le, lg_gt, lg_ltn, lg_gen, lg_eq0n, lg_len, lg_gtn, Nat.zero_le, Nat.not_lt_zero, not_false_eq_true, not_true_eq_false, true_and, and_true]; omega) | omega)) (o_pos (by decide) (o_neg (not_not_intro rfl) (o_pos (by (first | (simp (maxSteps := 4000000) (disch := omega) only [n_0, n_1, n_2, n_3, n_4, n_5, n_6, n_7, n_8, n_9, n_10, n_11, n_12, n_13, n_14, n_15, n_16, n_18, n_20, n_24, n_31, n_32, n_34, n_40, n_41, n_44, n_45, n_47, n_48, n_57, n_58, n_59, n_61, n_63, n_64, n_65, n_68, n_90, n_91, n_93, n_95, n_97, n_100, n_122, n_123, n_125, n_128, n_144, n_200, n_255, n_256, n_300, n_400, n_600, n_1536, n_3980, n_4000, n_4001, n_4300, n_65536, l_0, l_1, l_2, l_3, l_4, l_10, l_48, l_63, l_255, l_300, nI_ltI, nI_leI, nI_eq, nI_clamp, nI_add, pk_sub, pk_mul, nI_ne1, ne1_nI, nI_pge, nI_nlt0, nI_l, lN_i, lN_add, lN_mul, lN_sub, pk_lLT, pk_lLE, pk_lEQ, lg_lt, lg_ge, lg_eq0, lg_le, lg_gt, lg_ltn, lg_gen, lg_eq0n, lg_len, lg_gtn, Nat.zero_le, Nat.not_lt_zero, not_false_eq_true, not_true_eq_false, true_and, and_true]; done) | (simp (maxSteps := 4000000) (disch := omega) only [n_0, n_1, n_2, n_3, n_4, n_5, n_6, n_7, n_8, n_9, n_10, n_11, n_12, n_13, n_14, n_15, n_16, n_18, n_20, n_24, n_31, n_32, n_34, n_40, n_41, n_44, n_45, n_47, n_48, n_57, n_58, n_59, n_61, n_63, n_64, n_65, n_68, n_90, n_91, n_93, n_95, n_97, n_100, n_122, n_123, n_125, n_128, n_144, n_200, n_255, n_256, n_300, n_400, n_600, n_1536, n_3980, n_4000, n_4001, n_4300, n_65536, l_0, l_1, l_2, l_3, l_4, l_10, l_48, l_63, l_255, l_300, nI_ltI, nI_leI, nI_eq, nI_clamp, nI_add, pk_sub, pk_mul, nI_ne1, ne1_nI, nI_pge, nI_nlt0, nI_l, lN_i, lN_add, lN_mul, lN_sub, pk_lLT, pk_lLE, pk_lEQ, lg_lt, lg_ge, lg_eq0, lg_le, lg_gt, lg_ltn, lg_gen, lg_eq0n, lg_len, lg_gtn, Nat.zero_le, Nat.not_lt_zero, not_false_eq_true, not_true_eq_false, true_and, and_true]; omega) | omega)) q)))
    by_cases c1 : mv = sg 7 (sg 13 i)
    · have n1 : ¬ ¬ nI mv = nI (sg 7 (sg 13 i)) := by rw [c1]; exact not_not_intro rfl
      obtain ⟨r1, r01, p2, p3⟩ := e_t_areLeaves (mv := mv) L C W eo v6
      refine ⟨r1, r01, cl _ (o_neg n1 (o_bind p3 ?_)), fun g Q => ml g Q _ (o_neg n1 ?_), fun q => ⟨fun z => by omega, fun _ => c1, fun z => by omega, fun z => by omega⟩⟩
      · rcases r01 with z | z <;> subst z
        · exact o_pos rfl rfl
        · exact o_neg one0 rfl
      · obtain ⟨r2, q01, s2, s3⟩ := e_m_areOf (g := g) (b := 0) (Q.ms M) W eo (by omega)
        have iff : r2 = 1 ↔ r1 = 1 := by
          rw [s2, p2]
          constructor
          · intro z l hl
            have := z l (by omega)
            rw [Nat.zero_add, Q.2.1 1298 (by decide), ← w3 l hl] at this
            rw [Nat.mod_eq_of_lt (by omega)]
            exact this
          · intro z l hl
            have := z l (by omega)
            rw [Nat.mod_eq_of_lt hl] at this
            rw [Nat.zero_add, Q.2.1 1298 (by decide), ← w3 l (by omega)]
            exact this
        have e12 : r2 = r1 := by
          rcases r01 with z | z <;> rcases q01 with y | y
          · rw [z, y]
          · rw [iff.mp y] at z
            exact absurd z (by decide)
          · rw [iff.mpr z] at y
            exact absurd y (by decide)
          · rw [z, y]
        rw [e12] at s3
        refine o_bind s3 ?_
        rcases r01 with z | z <;> subst z
        · exact o_pos rfl rfl
        · exact o_neg one0 rfl
    · have n1 : ¬ nI mv = nI (sg 7 (sg 13 i)) := by (first | (simp (maxSteps := 4000000) (disch := omega) only [n_0, n_1, n_2, n_3, n_4, n_5, n_6, n_7, n_8, n_9, n_10, n_11, n_12, n_13, n_14, n_15, n_16, n_18, n_20, n_24, n_31, n_32, n_34, n_40, n_41, n_44, n_45, n_47, n_48, n_57, n_58, n_59, n_61, n_63, n_64, n_65, n_68, n_90, n_91, n_93, n_95, n_97, n_100, n_122, n_123, n_125, n_128, n_144, n_200, n_255, n_256, n_300, n_400, n_600, n_1536, n_3980, n_4000, n_4001, n_4300, n_65536, l_0, l_1, l_2, l_3, l_4, l_10, l_48, l_63, l_255, l_300, nI_ltI, nI_leI, nI_eq, nI_clamp, nI_add, pk_sub, pk_mul, nI_ne1, ne1_nI, nI_pge, nI_nlt0, nI_l, lN_i, lN_add, lN_mul, lN_sub, pk_lLT, pk_lLE, pk_lEQ, lg_lt, lg_ge, lg_eq0, lg_le, lg_gt, lg_ltn, lg_gen, lg_eq0n, lg_len, lg_gtn, Nat.zero_le, Nat.not_lt_zero, not_false_eq_true, not_true_eq_false, true_and, and_true]; done) | (simp (maxSteps := 4000000) (disch := omega) only [n_0, n_1, n_2, n_3, n_4, n_5, n_6, n_7, n_8, n_9, n_10, n_11, n_12, n_13, n_14, n_15, n_16, n_18, n_20, n_24, n_31, n_32, n_34, n_40, n_41, n_44, n_45, n_47, n_48, n_57, n_58, n_59, n_61, n_63, n_64, n_65, n_68, n_90, n_91, n_93, n_95, n_97, n_100, n_122, n_123, n_125, n_128, n_144, n_200, n_255, n_256, n_300, n_400, n_600, n_1536, n_3980, n_4000, n_4001, n_4300, n_65536, l_0, l_1, l_2, l_3, l_4, l_10, l_48, l_63, l_255, l_300, nI_ltI, nI_leI, nI_eq, nI_clamp, nI_add, pk_sub, pk_mul, nI_ne1, ne1_nI, nI_pge, nI_nlt0, nI_l, lN_i, lN_add, lN_mul, lN_sub, pk_lLT, pk_lLE, pk_lEQ, lg_lt, lg_ge, lg_eq0, lg_le, lg_gt, lg_ltn, lg_gen, lg_eq0n, lg_len, lg_gtn, Nat.zero_le, Nat.not_lt_zero, not_false_eq_true, not_true_eq_false, true_and, and_true]; omega) | omega)
      exact ⟨0, Or.inl rfl, cl _ (o_pos n1 rfl), fun g Q => ml g Q _ (o_pos n1 rfl), fun q => absurd q (by decide)⟩
  · exact ref 3 (Or.inr (Or.inl rfl)) es
  · exact ref 5 (Or.inr (Or.inr rfl)) es
end Suit
