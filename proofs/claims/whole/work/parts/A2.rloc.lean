/-! The class's reader finds a part -/
theorem nI_n1 {a : Nat} (ha : a < 2 ^ 31) : ¬ nI a = -1 := by rw [nI_ne1 ha]; exact id
def fnd (h : XH) (a0 a1 a2 a3 : Int32) : XH := hsi (hsj (hsi (hsi (hsi (hsi h 1255 6 a0) 1255 7 a1) 1255 9 a2) 1255 8 a3) 1255 10 (0 : Int64)) 1255 11 0
theorem fnd_lc {h : XH} {a0 a1 a2 a3 : Int32} : LC h (fnd h a0 a1 a2 a3) := ((((((LC.refl h).si).si).si).si).sj).si
theorem fnd_hi {h : XH} {a0 a1 a2 a3 : Int32} : hi (fnd h a0 a1 a2 a3) 1255 5 = hi h 1255 5 ∧ hi (fnd h a0 a1 a2 a3) 1255 6 = a0 ∧ hi (fnd h a0 a1 a2 a3) 1255 7 = a1 ∧ hi (fnd h a0 a1 a2 a3) 1255 8 = a3 ∧ hi (fnd h a0 a1 a2 a3) 1255 9 = a2 ∧ hi (fnd h a0 a1 a2 a3) 1255 11 = 0 := ⟨rfl, rfl, rfl, rfl, rfl, rfl⟩
/-- what was found: sort, number, place, element's sort, which member -/
def LOC (h g : XH) (ps po pp pe w : Int32) : Prop := LC h g ∧ hi g 1255 5 = hi h 1255 5 ∧ hi g 1255 6 = ps ∧ hi g 1255 7 = po ∧ hi g 1255 8 = pp ∧ hi g 1255 9 = pe ∧ hi g 1255 11 = w
theorem fnd_loc {h : XH} {a0 a1 a2 a3 : Int32} : LOC h (fnd h a0 a1 a2 a3) a0 a1 a3 a2 0 := ⟨fnd_lc, fnd_hi⟩
section RLoc
variable {h : XH} {S n a : Nat} {y : Nat → Nat} {sg : SGT} {sd : Nat → Int64} {so o e p : Nat}
theorem e_t_fieldOf {D F k : Nat} (d1 : D < hz h) (d2 : hk h D = 2) (e1 : f_d_fieldAt D (nI k) h = some (some F, h)) : f_t_fieldOf D (nI k) h = some (some F, h) := by
  unfold f_t_fieldOf b_t_fieldOf_13
  exact o_pos ⟨d1, d2⟩ (o_bind e1 rfl)
theorem dT_lt {t f : Nat} (W : WF sg sd) (hS : S + 616 ≤ 1244) (ht : t < sg 0 1) (hf : f < sg 10 t) : dT S t + 2 + f ≠ 1255 ∧ dT S t + 2 + f < 1244 := by
  have := (W.2.2.1 t ht).1
  have := W.1.2.1
  unfold dT
  omega
theorem dS_lt {t f : Nat} (W : WF sg sd) (hS : S + 616 ≤ 1244) (ht : t < sg 0 0) (hf : f < sg 1 t) : dS S t + 2 + f ≠ 1255 ∧ dS S t + 2 + f < 1244 := by
  have := (W.2.1 t ht).1
  have := W.1.1
  unfold dS
  omega
/-- a table's field, but for unions -/
theorem e_r_locateField_T (R : RC h S n a y sg sd 3 o e p) (W : WF sg sd) (hp : p + 4 ≤ n) (hj' : (jl y n p).1 = 0) (ho : o < sg 0 1) {k : Nat} (hk' : k < sg 10 o) (h4 : ¬ sg 12 (16 * o + k) = 4) : f_r_locateField S (dT S o + 2 + k) h = some (1, hsj (fnd h (nI (sg 12 (16 * o + k))) (nI (sg 13 (16 * o + k))) (nI (sg 14 (16 * o + k)) - 1) (sA y p (sg 15 (16 * o + k)))) 1255 10 (sd (16 * o + k))) := by
  have r5 := R.1.1
  have a4 := R.1.2
  have n4 := R.2.2.2.2.1
  have CC := R.2.2.2.2.2.2
  have ca : (nI a).toNatClampNeg = a := nI_clamp (by omega)
  have ⟨⟨f1, f2⟩, i3, i4, i5, i6, i7, i8⟩ := CC.fi W ho hk'
  have nf := (dT_lt W R.2.2.2.2.2.1 ho hk').1
  have sl := W.sl ho hk'
  have s5 : sg 12 (16 * o + k) ≤ 5 := by rcases W.fk ho hk' with k | ⟨-, -, ⟨e, -⟩ | ⟨e, -⟩ | ⟨e, -⟩ | ⟨e, -⟩⟩ | k <;> omega
  have y4 := R.2.2.2.1
  rw [← y4] at hj'
  have eS := e_b_storedAt (h := h) R.2.2.1 n4 hp hj' (s := sg 15 (16 * o + k)) (by omega)
  rw [y4, ← i6] at eS
  unfold f_r_locateField b_r_locateField_41 b_r_locateField_69
  refine o_bind (e_r_isAtHand R) (o_pos one0 ?_)
  dsimp only
  rw [r5, ca, R.2.1.1, R.2.1.2.2.2]
  refine o_pos (by (first | (simp (maxSteps := 4000000) (disch := omega) only [n_0, n_1, n_2, n_3, n_4, n_5, n_6, n_7, n_8, n_9, n_10, n_11, n_12, n_13, n_14, n_15, n_16, n_18, n_20, n_24, n_31, n_32, n_34, n_40, n_41, n_44, n_45, n_47, n_48, n_57, n_58, n_59, n_61, n_63, n_64, n_65, n_68, n_90, n_91, n_93, n_95, n_97, n_100, n_122, n_123, n_125, n_128, n_144, n_200, n_255, n_256, n_300, n_400, n_600, n_1536, n_3980, n_4000, n_4001, n_4300, n_65536, l_0, l_1, l_2, l_3, l_4, l_10, l_48, l_63, l_255, l_300, nI_ltI, nI_leI, nI_eq, nI_clamp, nI_add, pk_sub, pk_mul, nI_ne1, ne1_nI, nI_pge, nI_nlt0, nI_l, lN_i, lN_add, lN_mul, lN_sub, pk_lLT, pk_lLE, pk_lEQ, lg_lt, lg_ge, lg_eq0, lg_le, lg_gt, lg_ltn, lg_gen, lg_eq0n, lg_len, lg_gtn, Nat.zero_le, Nat.not_lt_zero, not_false_eq_true, not_true_eq_false, true_and, and_true, r5]; done) | (simp (maxSteps := 4000000) (disch := omega) only [n_0, n_1, n_2, n_3, n_4, n_5, n_6, n_7, n_8, n_9, n_10, n_11, n_12, n_13, n_14, n_15, n_16, n_18, n_20, n_24, n_31, n_32, n_34, n_40, n_41, n_44, n_45, n_47, n_48, n_57, n_58, n_59, n_61, n_63, n_64, n_65, n_68, n_90, n_91, n_93, n_95, n_97, n_100, n_122, n_123, n_125, n_128, n_144, n_200, n_255, n_256, n_300, n_400, n_600, n_1536, n_3980, n_4000, n_4001, n_4300, n_65536, l_0, l_1, l_2, l_3, l_4, l_10, l_48, l_63, l_255, l_300, nI_ltI, nI_leI, nI_eq, nI_clamp, nI_add, pk_sub, pk_mul, nI_ne1, ne1_nI, nI_pge, nI_nlt0, nI_l, lN_i, lN_add, lN_mul, lN_sub, pk_lLT, pk_lLE, pk_lEQ, lg_lt, lg_ge, lg_eq0, lg_le, lg_gt, lg_ltn, lg_gen, lg_eq0n, lg_len, lg_gtn, Nat.zero_le, Nat.not_lt_zero, not_false_eq_true, not_true_eq_false, true_and, and_true, r5]; omega) | omega)) (o_pos (by decide) (o_pos rfl (o_pos ⟨f1, f2⟩ (o_bind eS (o_pos ⟨f1, f2⟩ ?_)))))
  dsimp only
  rw [i3, i4, i5]
  show Option.bind (some ((), fnd h _ _ _ _)) _ = _
  refine o_bind rfl (o_pos ⟨f1, f2⟩ ?_)
  dsimp only
  rw [fnd_lc.hi nf, fnd_lc.hj nf, i3, i8]
  refine o_pos (by (first | (simp (maxSteps := 4000000) (disch := omega) only [n_0, n_1, n_2, n_3, n_4, n_5, n_6, n_7, n_8, n_9, n_10, n_11, n_12, n_13, n_14, n_15, n_16, n_18, n_20, n_24, n_31, n_32, n_34, n_40, n_41, n_44, n_45, n_47, n_48, n_57, n_58, n_59, n_61, n_63, n_64, n_65, n_68, n_90, n_91, n_93, n_95, n_97, n_100, n_122, n_123, n_125, n_128, n_144, n_200, n_255, n_256, n_300, n_400, n_600, n_1536, n_3980, n_4000, n_4001, n_4300, n_65536, l_0, l_1, l_2, l_3, l_4, l_10, l_48, l_63, l_255, l_300, nI_ltI, nI_leI, nI_eq, nI_clamp, nI_add, pk_sub, pk_mul, nI_ne1, ne1_nI, nI_pge, nI_nlt0, nI_l, lN_i, lN_add, lN_mul, lN_sub, pk_lLT, pk_lLE, pk_lEQ, lg_lt, lg_ge, lg_eq0, lg_le, lg_gt, lg_ltn, lg_gen, lg_eq0n, lg_len, lg_gtn, Nat.zero_le, Nat.not_lt_zero, not_false_eq_true, not_true_eq_false, true_and, and_true, r5]; done) | (simp (maxSteps := 4000000) (disch := omega) only [n_0, n_1, n_2, n_3, n_4, n_5, n_6, n_7, n_8, n_9, n_10, n_11, n_12, n_13, n_14, n_15, n_16, n_18, n_20, n_24, n_31, n_32, n_34, n_40, n_41, n_44, n_45, n_47, n_48, n_57, n_58, n_59, n_61, n_63, n_64, n_65, n_68, n_90, n_91, n_93, n_95, n_97, n_100, n_122, n_123, n_125, n_128, n_144, n_200, n_255, n_256, n_300, n_400, n_600, n_1536, n_3980, n_4000, n_4001, n_4300, n_65536, l_0, l_1, l_2, l_3, l_4, l_10, l_48, l_63, l_255, l_300, nI_ltI, nI_leI, nI_eq, nI_clamp, nI_add, pk_sub, pk_mul, nI_ne1, ne1_nI, nI_pge, nI_nlt0, nI_l, lN_i, lN_add, lN_mul, lN_sub, pk_lLT, pk_lLE, pk_lEQ, lg_lt, lg_ge, lg_eq0, lg_le, lg_gt, lg_ltn, lg_gen, lg_eq0n, lg_len, lg_gtn, Nat.zero_le, Nat.not_lt_zero, not_false_eq_true, not_true_eq_false, true_and, and_true, r5]; omega) | omega)) ?_
  rfl
theorem e_r_locateField_S (R : RC h S n a y sg sd 2 o e p) (W : WF sg sd) (ho : o < sg 0 0) {k : Nat} (hk' : k < sg 1 o) : f_r_locateField S (dS S o + 2 + k) h = some (1, hsj (fnd h (nI (sg 4 (12 * o + k))) (nI (sg 5 (12 * o + k))) (-1) (nI (p + sg 6 (12 * o + k)))) 1255 10 (hj h (dS S o + 2 + k) 8)) := by
  have r5 := R.1.1
  have a4 := R.1.2
  have CC := R.2.2.2.2.2.2
  have ca : (nI a).toNatClampNeg = a := nI_clamp (by omega)
  have D := CC.1.ddS (Nat.lt_of_lt_of_le ho W.1.1)
  have w := (W.2.1 o ho).1
  have f1 : dS S o + 2 + k < hz h := by have := D.1; omega
  have f2 : hk h (dS S o + 2 + k) = 3 := (D.2.2.2.2.2.2.2.2.1 k (by omega)).2
  have ⟨i3, i4, i5, i6, i7⟩ := (CC.2.2.1 o ho).2.1 k hk'
  have nf := (dS_lt W R.2.2.2.2.2.1 ho hk').1
  unfold f_r_locateField b_r_locateField_41 b_r_locateField_69
  refine o_bind (e_r_isAtHand R) (o_pos one0 ?_)
  dsimp only
  rw [r5, ca, R.2.1.1, R.2.1.2.2.2]
  refine o_pos (by (first | (simp (maxSteps := 4000000) (disch := omega) only [n_0, n_1, n_2, n_3, n_4, n_5, n_6, n_7, n_8, n_9, n_10, n_11, n_12, n_13, n_14, n_15, n_16, n_18, n_20, n_24, n_31, n_32, n_34, n_40, n_41, n_44, n_45, n_47, n_48, n_57, n_58, n_59, n_61, n_63, n_64, n_65, n_68, n_90, n_91, n_93, n_95, n_97, n_100, n_122, n_123, n_125, n_128, n_144, n_200, n_255, n_256, n_300, n_400, n_600, n_1536, n_3980, n_4000, n_4001, n_4300, n_65536, l_0, l_1, l_2, l_3, l_4, l_10, l_48, l_63, l_255, l_300, nI_ltI, nI_leI, nI_eq, nI_clamp, nI_add, pk_sub, pk_mul, nI_ne1, ne1_nI, nI_pge, nI_nlt0, nI_l, lN_i, lN_add, lN_mul, lN_sub, pk_lLT, pk_lLE, pk_lEQ, lg_lt, lg_ge, lg_eq0, lg_le, lg_gt, lg_ltn, lg_gen, lg_eq0n, lg_len, lg_gtn, Nat.zero_le, Nat.not_lt_zero, not_false_eq_true, not_true_eq_false, true_and, and_true, r5]; done) | (simp (maxSteps := 4000000) (disch := omega) only [n_0, n_1, n_2, n_3, n_4, n_5, n_6, n_7, n_8, n_9, n_10, n_11, n_12, n_13, n_14, n_15, n_16, n_18, n_20, n_24, n_31, n_32, n_34, n_40, n_41, n_44, n_45, n_47, n_48, n_57, n_58, n_59, n_61, n_63, n_64, n_65, n_68, n_90, n_91, n_93, n_95, n_97, n_100, n_122, n_123, n_125, n_128, n_144, n_200, n_255, n_256, n_300, n_400, n_600, n_1536, n_3980, n_4000, n_4001, n_4300, n_65536, l_0, l_1, l_2, l_3, l_4, l_10, l_48, l_63, l_255, l_300, nI_ltI, nI_leI, nI_eq, nI_clamp, nI_add, pk_sub, pk_mul, nI_ne1, ne1_nI, nI_pge, nI_nlt0, nI_l, lN_i, lN_add, lN_mul, lN_sub, pk_lLT, pk_lLE, pk_lEQ, lg_lt, lg_ge, lg_eq0, lg_le, lg_gt, lg_ltn, lg_gen, lg_eq0n, lg_len, lg_gtn, Nat.zero_le, Nat.not_lt_zero, not_false_eq_true, not_true_eq_false, true_and, and_true, r5]; omega) | omega)) (o_neg (by decide) (o_neg (by decide) (o_pos ⟨f1, f2⟩ (o_pos ⟨f1, f2⟩ ?_))))
  rw [i3, i4, i5, i6, nI_add]
  show Option.bind (some ((), fnd h _ _ _ _)) _ = _
  refine o_bind rfl (o_pos ⟨f1, f2⟩ ?_)
  dsimp only
  rw [fnd_lc.hi nf, fnd_lc.hj nf, i3]
  have s5 : sg 4 (12 * o + k) = 0 ∨ sg 4 (12 * o + k) = 2 := by rcases (W.2.1 o ho).2.1 k hk' with z | z <;> omega
  refine o_pos ?_ rfl
  rcases s5 with z | z <;> rw [z] <;> decide
/-- the heap behind finding a union -/
def fndU (h : XH) (sg : SGT) (sd : Nat → Int64) (y : Nat → Nat) (p i : Nat) : XH := hsi (hsi (hsi (hsj (fnd h (nI (sg 12 i)) (nI (sg 13 i)) (nI (sg 14 i) - 1) (sA y p (sg 15 i))) 1255 10 (sd i)) 1255 11 (nI (jwh y p (la y p) (sg 15 i)))) 1255 8 (if jwh y p (la y p) (sg 15 i) = 0 then -1 else nI (p + fr y (la y p) (sg 15 i + 1)))) 1255 7 (if jwh y p (la y p) (sg 15 i) = 0 then -1 else nI (sg 18 (8 * sg 13 i + (jwh y p (la y p) (sg 15 i) - 1))))
theorem e_r_locateField_U (R : RC h S n a y sg sd 3 o e p) (W : WF sg sd) {d : Nat} (T : TOK sg y n p o d) {k : Nat} (hk' : k < sg 10 o) (h4 : sg 12 (16 * o + k) = 4) : f_r_locateField S (dT S o + 2 + k) h = some (1, fndU h sg sd y p (16 * o + k)) := by
  have r5 := R.1.1
  have a4 := R.1.2
  have n4 := R.2.2.2.2.1
  have CC := R.2.2.2.2.2.2
  obtain ⟨hd, hp, hj', ho, tf⟩ := T
  have ca : (nI a).toNatClampNeg = a := nI_clamp (by omega)
  have ⟨⟨f1, f2⟩, i3, i4, i5, i6, i7, i8⟩ := CC.fi W ho hk'
  have nf := (dT_lt W R.2.2.2.2.2.1 ho hk').1
  have sl := W.sl ho hk'
  have s32 := sl.2.1 h4
  have hu : sg 13 (16 * o + k) < sg 0 2 := by rcases W.fk ho hk' with k | k | k <;> omega
  have wu := W.2.2.2 _ hu
  have ok := jl_ok hj'
  obtain ⟨u1, u2, u3⟩ := (tf k hk').uni h4
  have y4 := R.2.2.2.1
  have hj2 : (jl (cb h 1257) n p).1 = 0 := by rw [y4]; exact hj'
  have eS := e_b_storedAt (h := h) R.2.2.1 n4 hp hj2 (s := sg 15 (16 * o + k)) (by omega)
  rw [y4, ← i6] at eS
  have R2 : RC (hsj (fnd h (nI (sg 12 (16 * o + k))) (nI (sg 13 (16 * o + k))) (nI (sg 14 (16 * o + k)) - 1) (sA y p (sg 15 (16 * o + k)))) 1255 10 (sd (16 * o + k))) S n a y sg sd 3 o e p := R.lc W fnd_lc.sj rfl
  have C2 := R2.2.2.2.2.2.2
  have eU := C2.atU W hu
  have v1 : S + 517 < hz h := by have := CC.1.1; omega
  have v2 : hk h (S + 517) = 4 := CC.1.gU.2.2.2.1
  have s1 : S < hz h := by have := CC.1.1; omega
  have k9 : hk h S = 9 := CC.1.2.2.1
  have r2 : hr h S 2 = some (S + 517) := CC.1.2.2.2.2.2.1
  unfold f_r_locateField b_r_locateField_41 b_r_locateField_69
  refine o_bind (e_r_isAtHand R) (o_pos one0 ?_)
  dsimp only
  rw [r5, ca, R.2.1.1, R.2.1.2.2.2]
  refine o_pos (by (first | (simp (maxSteps := 4000000) (disch := omega) only [n_0, n_1, n_2, n_3, n_4, n_5, n_6, n_7, n_8, n_9, n_10, n_11, n_12, n_13, n_14, n_15, n_16, n_18, n_20, n_24, n_31, n_32, n_34, n_40, n_41, n_44, n_45, n_47, n_48, n_57, n_58, n_59, n_61, n_63, n_64, n_65, n_68, n_90, n_91, n_93, n_95, n_97, n_100, n_122, n_123, n_125, n_128, n_144, n_200, n_255, n_256, n_300, n_400, n_600, n_1536, n_3980, n_4000, n_4001, n_4300, n_65536, l_0, l_1, l_2, l_3, l_4, l_10, l_48, l_63, l_255, l_300, nI_ltI, nI_leI, nI_eq, nI_clamp, nI_add, pk_sub, pk_mul, nI_ne1, ne1_nI, nI_pge, nI_nlt0, nI_l, lN_i, lN_add, lN_mul, lN_sub, pk_lLT, pk_lLE, pk_lEQ, lg_lt, lg_ge, lg_eq0, lg_le, lg_gt, lg_ltn, lg_gen, lg_eq0n, lg_len, lg_gtn, Nat.zero_le, Nat.not_lt_zero, not_false_eq_true, not_true_eq_false, true_and, and_true, r5]; done) | (simp (maxSteps := 4000000) (disch := omega) only [n_0, n_1, n_2, n_3, n_4, n_5, n_6, n_7, n_8, n_9, n_10, n_11, n_12, n_13, n_14, n_15, n_16, n_18, n_20, n_24, n_31, n_32, n_34, n_40, n_41, n_44, n_45, n_47, n_48, n_57, n_58, n_59, n_61, n_63, n_64, n_65, n_68, n_90, n_91, n_93, n_95, n_97, n_100, n_122, n_123, n_125, n_128, n_144, n_200, n_255, n_256, n_300, n_400, n_600, n_1536, n_3980, n_4000, n_4001, n_4300, n_65536, l_0, l_1, l_2, l_3, l_4, l_10, l_48, l_63, l_255, l_300, nI_ltI, nI_leI, nI_eq, nI_clamp, nI_add, pk_sub, pk_mul, nI_ne1, ne1_nI, nI_pge, nI_nlt0, nI_l, lN_i, lN_add, lN_mul, lN_sub, pk_lLT, pk_lLE, pk_lEQ, lg_lt, lg_ge, lg_eq0, lg_le, lg_gt, lg_ltn, lg_gen, lg_eq0n, lg_len, lg_gtn, Nat.zero_le, Nat.not_lt_zero, not_false_eq_true, not_true_eq_false, true_and, and_true, r5]; omega) | omega)) (o_pos (by decide) (o_pos rfl (o_pos ⟨f1, f2⟩ (o_bind eS (o_pos ⟨f1, f2⟩ ?_)))))
  dsimp only
  rw [i3, i4, i5]
  show Option.bind (some ((), fnd h _ _ _ _)) _ = _
  refine o_bind rfl (o_pos ⟨f1, f2⟩ ?_)
  dsimp only
  rw [fnd_lc.hi nf, fnd_lc.hj nf, i3, i4, i8]
  refine o_neg (by rw [h4]; decide) (o_pos ⟨s1, k9⟩ (o_bind r2 (o_pos ⟨v1, v2⟩ (o_bind eU (o_pos ⟨f1, f2⟩ (o_bind rfl ?_))))))
  dsimp only
  rw [show hi (hsj (fnd h (nI (sg 12 (16 * o + k))) (nI (sg 13 (16 * o + k))) (nI (sg 14 (16 * o + k)) - 1) (sA y p (sg 15 (16 * o + k)))) 1255 10 (sd (16 * o + k))) (dT S o + 2 + k) 6 = nI (sg 15 (16 * o + k)) from by rw [fnd_lc.sj.hi nf]; exact i6]
  suffices hm : f_r_locateMember (dU S (sg 13 (16 * o + k))) (nI p) (nI (sg 15 (16 * o + k)) + 1) (hsj (fnd h (nI (sg 12 (16 * o + k))) (nI (sg 13 (16 * o + k))) (nI (sg 14 (16 * o + k)) - 1) (sA y p (sg 15 (16 * o + k)))) 1255 10 (sd (16 * o + k))) = some ((), fndU h sg sd y p (16 * o + k)) from o_bind hm rfl
  have hu8 := Nat.lt_of_lt_of_le hu W.1.2.2.1
  have D := C2.1.ddU hu8
  have D1 := D.1
  have d3 := (C2.2.2.2.2 _ hu).1
  have nd : dU S (sg 13 (16 * o + k)) + 2 + 8 < 1244 := by have := R.2.2.2.2.2.1; unfold dU; omega
  have tail : ∀ w : Nat, w < 256 → jwh y p (la y p) (sg 15 (16 * o + k)) = w → b_r_locateMember_24 (dU S (sg 13 (16 * o + k))) (nI p) (nI (sg 15 (16 * o + k)) + 1) (nI w) (hsj (fnd h (nI (sg 12 (16 * o + k))) (nI (sg 13 (16 * o + k))) (nI (sg 14 (16 * o + k)) - 1) (sA y p (sg 15 (16 * o + k)))) 1255 10 (sd (16 * o + k))) = some ((), fndU h sg sd y p (16 * o + k)) := by
    intro w w1 w2
    have R3 : RC (hsi (hsj (fnd h (nI (sg 12 (16 * o + k))) (nI (sg 13 (16 * o + k))) (nI (sg 14 (16 * o + k)) - 1) (sA y p (sg 15 (16 * o + k)))) 1255 10 (sd (16 * o + k))) 1255 11 (nI w)) S n a y sg sd 3 o e p := R.lc W (fnd_lc.sj.si) rfl
    have C3 := R3.2.2.2.2.2.2
    have D3 := C3.1.ddU hu8
    have d33 := (C3.2.2.2.2 _ hu).1
    have D4 := D3.1
    unfold b_r_locateMember_24 b_r_locateMember_58 b_r_locateMember_76 fndU
    rw [w2]
    by_cases w0 : w = 0
    · subst w0
      have eF := e_d_fieldAtN (x := nI 0 - 1) D3 d33 wu.2.1 (Or.inl (by decide))
      rw [if_pos rfl, if_pos rfl]
      unfold f_t_fieldOf b_t_fieldOf_13
      refine o_bind (o_pos ⟨by omega, D3.2.2.2.2.1⟩ (o_bind eF rfl)) (o_elimn (o_elimn rfl))
    · rw [w2] at u2 u3
      have eF := C3.fU W hu (f := w - 1) (by omega)
      rw [← nI_m w (by omega)] at eF
      have g2 := (D3.2.2.2.2.2.2.2.2.1 (w - 1) (by omega)).2
      have g3 := (C3.2.2.2.2 _ hu).2 (w - 1) (by omega)
      obtain ⟨x1, x2, -⟩ := u3 w0
      have y5 := R3.2.2.2.1
      have hj3 : (jl (cb (hsi (hsj (fnd h (nI (sg 12 (16 * o + k))) (nI (sg 13 (16 * o + k))) (nI (sg 14 (16 * o + k)) - 1) (sA y p (sg 15 (16 * o + k)))) 1255 10 (sd (16 * o + k))) 1255 11 (nI w)) 1257) n p).1 = 0 := by rw [y5]; exact hj'
      have eT := e_b_storedAt R3.2.2.1 n4 hp hj3 (s := sg 15 (16 * o + k) + 1) (by omega)
      rw [y5, ← nI_1] at eT
      have e9 : sA y p (sg 15 (16 * o + k) + 1) = nI (p + fr y (la y p) (sg 15 (16 * o + k) + 1)) := if_neg x1
      rw [e9] at eT
      rw [if_neg w0, if_neg w0, ← g3]
      unfold f_t_fieldOf b_t_fieldOf_13
      exact o_bind (o_pos ⟨by omega, D3.2.2.2.2.1⟩ (o_bind eF rfl)) (o_elim (o_bind eT (o_elim (o_pos ⟨by show _ < hz (hsi (hsj (fnd h _ _ _ _) 1255 10 _) 1255 11 _); omega, g2⟩ rfl))))
  unfold f_r_locateMember
  have e8 : hi (hsj (fnd h (nI (sg 12 (16 * o + k))) (nI (sg 13 (16 * o + k))) (nI (sg 14 (16 * o + k)) - 1) (sA y p (sg 15 (16 * o + k)))) 1255 10 (sd (16 * o + k))) 1255 8 = sA y p (sg 15 (16 * o + k)) := rfl
  rw [e8]
  by_cases c1 : fr y (la y p) (sg 15 (16 * o + k)) = 0
  · have e7 : sA y p (sg 15 (16 * o + k)) = -1 := if_pos c1
    exact o_neg (not_not_intro e7) (tail 0 (by decide) (by unfold jwh; rw [if_pos c1]))
  · have e7 : sA y p (sg 15 (16 * o + k)) = nI (p + fr y (la y p) (sg 15 (16 * o + k))) := if_neg c1
    have jk := jw_ok (u1 c1)
    obtain ⟨g1, g2⟩ := fr_ne c1
    have eO := e_b_octet R2.2.2.1 (i := p + fr y (la y p) (sg 15 (16 * o + k))) (by omega)
    have e6 : cb (hsj (fnd h (nI (sg 12 (16 * o + k))) (nI (sg 13 (16 * o + k))) (nI (sg 14 (16 * o + k)) - 1) (sA y p (sg 15 (16 * o + k)))) 1255 10 (sd (16 * o + k))) 1257 = y := R2.2.2.2.1
    rw [e6, ← e7] at eO
    refine o_pos (by rw [e7]; exact nI_n1 (by omega)) (o_bind eO (tail _ (R.y256 _) (by unfold jwh; rw [if_neg c1])))
end RLoc
