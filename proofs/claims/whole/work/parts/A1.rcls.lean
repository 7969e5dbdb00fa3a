/-! The class's reader -/
theorem one0 : ¬ (1 : Int32) = 0 := by decide
section LocHeap
variable {h g : XH}
/-- only the row 1255 differs -/
def LC (h g : XH) : Prop := ∃ (f : Nat → Int32) (w : Nat → Int64), g = hrj (hri h 1255 f) 1255 w
theorem LC.refl (h : XH) : LC h h := ⟨hi h 1255, hj h 1255, by rw [hri_self, hrj_self]⟩
theorem LC.si {k : Nat} {v : Int32} (H : LC h g) : LC h (hsi g 1255 k v) := by
  obtain ⟨f, w, rfl⟩ := H
  refine ⟨upd f k v, w, ?_⟩
  rw [hsi_row]
  unfold hri hrj
  simp only [x1_x1]
  rfl
theorem LC.sj {k : Nat} {v : Int64} (H : LC h g) : LC h (hsj g 1255 k v) := by
  obtain ⟨f, w, rfl⟩ := H
  refine ⟨f, vp_updL w k v, ?_⟩
  rw [hsj_row]
  unfold hri hrj
  simp only [x1_x1]
  rfl
theorem LC.trans {e : XH} (H : LC h g) (K : LC g e) : LC h e := by
  obtain ⟨f, w, rfl⟩ := H
  obtain ⟨f2, w2, rfl⟩ := K
  refine ⟨f2, w2, ?_⟩
  unfold hri hrj
  simp only [x1_x1]
theorem LC.hi (H : LC h g) {a : Nat} (ha : a ≠ 1255) : hi g a = hi h a := by
  obtain ⟨f, w, rfl⟩ := H
  exact hi_hri_ne ha
theorem LC.hj (H : LC h g) {a : Nat} (ha : a ≠ 1255) : hj g a = hj h a := by
  obtain ⟨f, w, rfl⟩ := H
  exact hj_hrj_ne ha
theorem LC.ly (H : LC h g) : LY g = LY h := by
  obtain ⟨f, w, rfl⟩ := H
  rfl
theorem LC.sc (H : LC h g) {S : Nat} : SC g S = SC h S := by
  obtain ⟨f, w, rfl⟩ := H
  rfl
theorem LC.by (H : LC h g) {b c : Nat} : BY g b c = BY h b c := by
  obtain ⟨f, w, rfl⟩ := H
  rfl
theorem LC.z (H : LC h g) : hz g = hz h ∧ hw g = hw h ∧ hk g = hk h ∧ hn g = hn h ∧ hr g = hr h := by
  obtain ⟨f, w, rfl⟩ := H
  exact ⟨rfl, rfl, rfl, rfl, rfl⟩
end LocHeap
/-- the node at hand, in the class -/
def RC (h : XH) (S n a : Nat) (y : Nat → Nat) (sg : SGT) (sd : Nat → Int64) (so o e p : Nat) : Prop := (hi h 1255 5 = nI a ∧ a ≤ 43) ∧ (hi h 1258 a = nI so ∧ hi h 1259 a = nI o ∧ hi h 1260 a = nI e - 1 ∧ hi h 1261 a = nI p) ∧ BY h 1256 1257 ∧ cb h 1257 = y ∧ n ≤ 4000 ∧ S + 616 ≤ 1244 ∧ CS h S sg sd
/-- how many parts -/
def pc (sg : SGT) (y : Nat → Nat) (so o p : Nat) : Nat := if so = 3 then sg 10 o else if so = 2 then sg 1 o else nb y 4 p
def nk (so : Nat) : Int32 := if so = 3 then 1 else if so = 2 then 2 else if so = 5 then 3 else 4
section RCls
variable {h : XH} {S n a : Nat} {y : Nat → Nat} {sg : SGT} {sd : Nat → Int64} {so o e p : Nat}
theorem RC.lc {g : XH} (R : RC h S n a y sg sd so o e p) (W : WF sg sd) (H : LC h g) (e5 : hi g 1255 5 = hi h 1255 5) : RC g S n a y sg sd so o e p := by
  obtain ⟨r1, r2, r3, r4, r5, r6, r7⟩ := R
  refine ⟨by rw [e5]; exact r1, ?_, by rw [H.by]; exact r3, ?_, r5, r6, r7.cg W (by rw [H.sc]; exact r7.1) (fun a _ ha => H.hi (by omega)) (fun a _ ha => H.hj (by omega))⟩
  · rw [H.hi (by decide), H.hi (by decide), H.hi (by decide), H.hi (by decide)]; exact r2
  · rw [← r4]; funext i; unfold cb; rw [H.hi (by decide)]
theorem NV.so5 {i : Nat} (v : NV sg y n i so o e p) : so ≤ 5 ∧ ¬ so = 4 := by rcases v with ⟨k, -⟩ | ⟨k, -⟩ | ⟨k, -⟩ | ⟨k, -⟩ <;> omega
theorem NV.p4 {i : Nat} (v : NV sg y n i so o e p) (h2 : ¬ so = 2) : p + 4 ≤ n := by
  rcases v with ⟨-, -, d, -, t⟩ | ⟨-, -, d, -, t⟩ | ⟨-, -, -, -, t⟩ | ⟨k, -⟩
  · exact t.2.1
  · exact t.2.1
  · omega
  · omega
theorem NV.pcl {i : Nat} (v : NV sg y n i so o e p) (W : WF sg sd) (hn' : n ≤ 4000) : pc sg y so o p ≤ 4000 := by
  unfold pc
  rcases v with ⟨k, -, d, -, t⟩ | ⟨k, -, d, -, t⟩ | ⟨k, -, -, -, t⟩ | ⟨k, -, t, -⟩ <;> subst k
  · have := (W.2.2.1 o t.2.2.2.1).1
    rw [if_pos rfl]; omega
  · rw [if_neg (by decide), if_neg (by decide)]
    have z := zO_le W (Or.inl t.2.2.2.1)
    have q := t.2.2.1
    have := Nat.le_mul_of_pos_right (nb y 4 p) (show 0 < zO sg (e - 1) o by omega)
    omega
  · rw [if_neg (by decide), if_neg (by decide)]; omega
  · have := (W.2.1 o t).1
    rw [if_neg (by decide), if_pos rfl]; omega
theorem RC.num (R : RC h S n a y sg sd so o e p) {i k : Nat} (h8 : k ≤ 8) (hik : i + k ≤ 4000) : f_b_number 1256 (nI i) (nI k) h = some (lN (nb y k i), h) := by
  rw [← R.2.2.2.1]; exact e_b_number R.2.2.1 h8 hik
theorem RC.y256 (R : RC h S n a y sg sd so o e p) : ∀ k, y k < 256 := fun k => R.2.2.2.1 ▸ cb_lt h 1257 k
theorem e_r_isAtHand (R : RC h S n a y sg sd so o e p) : f_r_isAtHand h = some (1, h) := by
  have r5 := R.1.1
  have a4 := R.1.2
  unfold f_r_isAtHand
  rw [r5]
  refine o_neg (by (first | (simp (maxSteps := 4000000) (disch := omega) only [n_0, n_1, n_2, n_3, n_4, n_5, n_6, n_7, n_8, n_9, n_10, n_11, n_12, n_13, n_14, n_15, n_16, n_18, n_20, n_24, n_31, n_32, n_34, n_40, n_41, n_44, n_45, n_47, n_48, n_57, n_58, n_59, n_61, n_63, n_64, n_65, n_68, n_90, n_91, n_93, n_95, n_97, n_100, n_122, n_123, n_125, n_128, n_144, n_200, n_255, n_256, n_300, n_400, n_600, n_1536, n_3980, n_4000, n_4001, n_4300, n_65536, l_0, l_1, l_2, l_3, l_4, l_10, l_48, l_63, l_255, l_300, nI_ltI, nI_leI, nI_eq, nI_clamp, nI_add, pk_sub, pk_mul, nI_ne1, ne1_nI, nI_pge, nI_nlt0, nI_l, lN_i, lN_add, lN_mul, lN_sub, pk_lLT, pk_lLE, pk_lEQ, lg_lt, lg_ge, lg_eq0, lg_le, lg_gt, lg_ltn, lg_gen, lg_eq0n, lg_len, lg_gtn, Nat.zero_le, Nat.not_lt_zero, not_false_eq_true, not_true_eq_false, true_and, and_true, r5]; done) | (simp (maxSteps := 4000000) (disch := omega) only [n_0, n_1, n_2, n_3, n_4, n_5, n_6, n_7, n_8, n_9, n_10, n_11, n_12, n_13, n_14, n_15, n_16, n_18, n_20, n_24, n_31, n_32, n_34, n_40, n_41, n_44, n_45, n_47, n_48, n_57, n_58, n_59, n_61, n_63, n_64, n_65, n_68, n_90, n_91, n_93, n_95, n_97, n_100, n_122, n_123, n_125, n_128, n_144, n_200, n_255, n_256, n_300, n_400, n_600, n_1536, n_3980, n_4000, n_4001, n_4300, n_65536, l_0, l_1, l_2, l_3, l_4, l_10, l_48, l_63, l_255, l_300, nI_ltI, nI_leI, nI_eq, nI_clamp, nI_add, pk_sub, pk_mul, nI_ne1, ne1_nI, nI_pge, nI_nlt0, nI_l, lN_i, lN_add, lN_mul, lN_sub, pk_lLT, pk_lLE, pk_lEQ, lg_lt, lg_ge, lg_eq0, lg_le, lg_gt, lg_ltn, lg_gen, lg_eq0n, lg_len, lg_gtn, Nat.zero_le, Nat.not_lt_zero, not_false_eq_true, not_true_eq_false, true_and, and_true, r5]; omega) | omega)) ?_
  refine o_neg (by (first | (simp (maxSteps := 4000000) (disch := omega) only [n_0, n_1, n_2, n_3, n_4, n_5, n_6, n_7, n_8, n_9, n_10, n_11, n_12, n_13, n_14, n_15, n_16, n_18, n_20, n_24, n_31, n_32, n_34, n_40, n_41, n_44, n_45, n_47, n_48, n_57, n_58, n_59, n_61, n_63, n_64, n_65, n_68, n_90, n_91, n_93, n_95, n_97, n_100, n_122, n_123, n_125, n_128, n_144, n_200, n_255, n_256, n_300, n_400, n_600, n_1536, n_3980, n_4000, n_4001, n_4300, n_65536, l_0, l_1, l_2, l_3, l_4, l_10, l_48, l_63, l_255, l_300, nI_ltI, nI_leI, nI_eq, nI_clamp, nI_add, pk_sub, pk_mul, nI_ne1, ne1_nI, nI_pge, nI_nlt0, nI_l, lN_i, lN_add, lN_mul, lN_sub, pk_lLT, pk_lLE, pk_lEQ, lg_lt, lg_ge, lg_eq0, lg_le, lg_gt, lg_ltn, lg_gen, lg_eq0n, lg_len, lg_gtn, Nat.zero_le, Nat.not_lt_zero, not_false_eq_true, not_true_eq_false, true_and, and_true, r5]; done) | (simp (maxSteps := 4000000) (disch := omega) only [n_0, n_1, n_2, n_3, n_4, n_5, n_6, n_7, n_8, n_9, n_10, n_11, n_12, n_13, n_14, n_15, n_16, n_18, n_20, n_24, n_31, n_32, n_34, n_40, n_41, n_44, n_45, n_47, n_48, n_57, n_58, n_59, n_61, n_63, n_64, n_65, n_68, n_90, n_91, n_93, n_95, n_97, n_100, n_122, n_123, n_125, n_128, n_144, n_200, n_255, n_256, n_300, n_400, n_600, n_1536, n_3980, n_4000, n_4001, n_4300, n_65536, l_0, l_1, l_2, l_3, l_4, l_10, l_48, l_63, l_255, l_300, nI_ltI, nI_leI, nI_eq, nI_clamp, nI_add, pk_sub, pk_mul, nI_ne1, ne1_nI, nI_pge, nI_nlt0, nI_l, lN_i, lN_add, lN_mul, lN_sub, pk_lLT, pk_lLE, pk_lEQ, lg_lt, lg_ge, lg_eq0, lg_le, lg_gt, lg_ltn, lg_gen, lg_eq0n, lg_len, lg_gtn, Nat.zero_le, Nat.not_lt_zero, not_false_eq_true, not_true_eq_false, true_and, and_true, r5]; omega) | omega)) ?_
  rfl
theorem e_r_nodeKind (R : RC h S n a y sg sd so o e p) (s5 : so ≤ 5) : f_r_nodeKind h = some (nk so, h) := by
  have r5 := R.1.1
  have a4 := R.1.2
  have ca : (nI a).toNatClampNeg = a := nI_clamp (by omega)
  unfold f_r_nodeKind
  refine o_bind (e_r_isAtHand R) (o_pos one0 ?_)
  dsimp only
  rw [r5, ca, R.2.1.1]
  refine o_pos (by (first | (simp (maxSteps := 4000000) (disch := omega) only [n_0, n_1, n_2, n_3, n_4, n_5, n_6, n_7, n_8, n_9, n_10, n_11, n_12, n_13, n_14, n_15, n_16, n_18, n_20, n_24, n_31, n_32, n_34, n_40, n_41, n_44, n_45, n_47, n_48, n_57, n_58, n_59, n_61, n_63, n_64, n_65, n_68, n_90, n_91, n_93, n_95, n_97, n_100, n_122, n_123, n_125, n_128, n_144, n_200, n_255, n_256, n_300, n_400, n_600, n_1536, n_3980, n_4000, n_4001, n_4300, n_65536, l_0, l_1, l_2, l_3, l_4, l_10, l_48, l_63, l_255, l_300, nI_ltI, nI_leI, nI_eq, nI_clamp, nI_add, pk_sub, pk_mul, nI_ne1, ne1_nI, nI_pge, nI_nlt0, nI_l, lN_i, lN_add, lN_mul, lN_sub, pk_lLT, pk_lLE, pk_lEQ, lg_lt, lg_ge, lg_eq0, lg_le, lg_gt, lg_ltn, lg_gen, lg_eq0n, lg_len, lg_gtn, Nat.zero_le, Nat.not_lt_zero, not_false_eq_true, not_true_eq_false, true_and, and_true, r5]; done) | (simp (maxSteps := 4000000) (disch := omega) only [n_0, n_1, n_2, n_3, n_4, n_5, n_6, n_7, n_8, n_9, n_10, n_11, n_12, n_13, n_14, n_15, n_16, n_18, n_20, n_24, n_31, n_32, n_34, n_40, n_41, n_44, n_45, n_47, n_48, n_57, n_58, n_59, n_61, n_63, n_64, n_65, n_68, n_90, n_91, n_93, n_95, n_97, n_100, n_122, n_123, n_125, n_128, n_144, n_200, n_255, n_256, n_300, n_400, n_600, n_1536, n_3980, n_4000, n_4001, n_4300, n_65536, l_0, l_1, l_2, l_3, l_4, l_10, l_48, l_63, l_255, l_300, nI_ltI, nI_leI, nI_eq, nI_clamp, nI_add, pk_sub, pk_mul, nI_ne1, ne1_nI, nI_pge, nI_nlt0, nI_l, lN_i, lN_add, lN_mul, lN_sub, pk_lLT, pk_lLE, pk_lEQ, lg_lt, lg_ge, lg_eq0, lg_le, lg_gt, lg_ltn, lg_gen, lg_eq0n, lg_len, lg_gtn, Nat.zero_le, Nat.not_lt_zero, not_false_eq_true, not_true_eq_false, true_and, and_true, r5]; omega) | omega)) ?_
  unfold nk
  have c : so = 0 ∨ so = 1 ∨ so = 2 ∨ so = 3 ∨ so = 4 ∨ so = 5 := by omega
  rcases c with q | q | q | q | q | q <;> subst q <;> rfl
theorem e_r_definitionT (R : RC h S n a y sg sd 3 o e p) (W : WF sg sd) (ho : o < sg 0 1) : f_r_definitionAtHand S h = some (some (dT S o), h) := by
  have r5 := R.1.1
  have a4 := R.1.2
  have CC := R.2.2.2.2.2.2
  have ca : (nI a).toNatClampNeg = a := nI_clamp (by omega)
  have s1 : S < hz h := by have := CC.1.1; omega
  have k9 : hk h S = 9 := CC.1.2.2.1
  have u1 : S + 195 < hz h := by have := CC.1.1; omega
  have u2 : hk h (S + 195) = 4 := CC.1.gT.2.2.2.1
  unfold f_r_definitionAtHand b_r_definitionAtHand_51
  refine o_bind (e_r_isAtHand R) (o_pos one0 ?_)
  dsimp only
  rw [r5, ca, R.2.1.1, R.2.1.2.1]
  refine o_pos (by (first | (simp (maxSteps := 4000000) (disch := omega) only [n_0, n_1, n_2, n_3, n_4, n_5, n_6, n_7, n_8, n_9, n_10, n_11, n_12, n_13, n_14, n_15, n_16, n_18, n_20, n_24, n_31, n_32, n_34, n_40, n_41, n_44, n_45, n_47, n_48, n_57, n_58, n_59, n_61, n_63, n_64, n_65, n_68, n_90, n_91, n_93, n_95, n_97, n_100, n_122, n_123, n_125, n_128, n_144, n_200, n_255, n_256, n_300, n_400, n_600, n_1536, n_3980, n_4000, n_4001, n_4300, n_65536, l_0, l_1, l_2, l_3, l_4, l_10, l_48, l_63, l_255, l_300, nI_ltI, nI_leI, nI_eq, nI_clamp, nI_add, pk_sub, pk_mul, nI_ne1, ne1_nI, nI_pge, nI_nlt0, nI_l, lN_i, lN_add, lN_mul, lN_sub, pk_lLT, pk_lLE, pk_lEQ, lg_lt, lg_ge, lg_eq0, lg_le, lg_gt, lg_ltn, lg_gen, lg_eq0n, lg_len, lg_gtn, Nat.zero_le, Nat.not_lt_zero, not_false_eq_true, not_true_eq_false, true_and, and_true, r5]; done) | (simp (maxSteps := 4000000) (disch := omega) only [n_0, n_1, n_2, n_3, n_4, n_5, n_6, n_7, n_8, n_9, n_10, n_11, n_12, n_13, n_14, n_15, n_16, n_18, n_20, n_24, n_31, n_32, n_34, n_40, n_41, n_44, n_45, n_47, n_48, n_57, n_58, n_59, n_61, n_63, n_64, n_65, n_68, n_90, n_91, n_93, n_95, n_97, n_100, n_122, n_123, n_125, n_128, n_144, n_200, n_255, n_256, n_300, n_400, n_600, n_1536, n_3980, n_4000, n_4001, n_4300, n_65536, l_0, l_1, l_2, l_3, l_4, l_10, l_48, l_63, l_255, l_300, nI_ltI, nI_leI, nI_eq, nI_clamp, nI_add, pk_sub, pk_mul, nI_ne1, ne1_nI, nI_pge, nI_nlt0, nI_l, lN_i, lN_add, lN_mul, lN_sub, pk_lLT, pk_lLE, pk_lEQ, lg_lt, lg_ge, lg_eq0, lg_le, lg_gt, lg_ltn, lg_gen, lg_eq0n, lg_len, lg_gtn, Nat.zero_le, Nat.not_lt_zero, not_false_eq_true, not_true_eq_false, true_and, and_true, r5]; omega) | omega)) ?_
  exact o_neg (by decide) (o_pos ⟨s1, k9⟩ (o_bind CC.1.2.2.2.2.1 (o_pos ⟨u1, u2⟩ (o_bind (CC.atT W ho) rfl))))
theorem e_r_definitionS (R : RC h S n a y sg sd 2 o e p) (W : WF sg sd) (ho : o < sg 0 0) : f_r_definitionAtHand S h = some (some (dS S o), h) := by
  have r5 := R.1.1
  have a4 := R.1.2
  have CC := R.2.2.2.2.2.2
  have ca : (nI a).toNatClampNeg = a := nI_clamp (by omega)
  have s1 : S < hz h := by have := CC.1.1; omega
  have k9 : hk h S = 9 := CC.1.2.2.1
  have u1 : S + 1 < hz h := by have := CC.1.1; omega
  have u2 : hk h (S + 1) = 4 := CC.1.gS.2.2.2.1
  unfold f_r_definitionAtHand b_r_definitionAtHand_51
  refine o_bind (e_r_isAtHand R) (o_pos one0 ?_)
  dsimp only
  rw [r5, ca, R.2.1.1, R.2.1.2.1]
  refine o_pos (by (first | (simp (maxSteps := 4000000) (disch := omega) only [n_0, n_1, n_2, n_3, n_4, n_5, n_6, n_7, n_8, n_9, n_10, n_11, n_12, n_13, n_14, n_15, n_16, n_18, n_20, n_24, n_31, n_32, n_34, n_40, n_41, n_44, n_45, n_47, n_48, n_57, n_58, n_59, n_61, n_63, n_64, n_65, n_68, n_90, n_91, n_93, n_95, n_97, n_100, n_122, n_123, n_125, n_128, n_144, n_200, n_255, n_256, n_300, n_400, n_600, n_1536, n_3980, n_4000, n_4001, n_4300, n_65536, l_0, l_1, l_2, l_3, l_4, l_10, l_48, l_63, l_255, l_300, nI_ltI, nI_leI, nI_eq, nI_clamp, nI_add, pk_sub, pk_mul, nI_ne1, ne1_nI, nI_pge, nI_nlt0, nI_l, lN_i, lN_add, lN_mul, lN_sub, pk_lLT, pk_lLE, pk_lEQ, lg_lt, lg_ge, lg_eq0, lg_le, lg_gt, lg_ltn, lg_gen, lg_eq0n, lg_len, lg_gtn, Nat.zero_le, Nat.not_lt_zero, not_false_eq_true, not_true_eq_false, true_and, and_true, r5]; done) | (simp (maxSteps := 4000000) (disch := omega) only [n_0, n_1, n_2, n_3, n_4, n_5, n_6, n_7, n_8, n_9, n_10, n_11, n_12, n_13, n_14, n_15, n_16, n_18, n_20, n_24, n_31, n_32, n_34, n_40, n_41, n_44, n_45, n_47, n_48, n_57, n_58, n_59, n_61, n_63, n_64, n_65, n_68, n_90, n_91, n_93, n_95, n_97, n_100, n_122, n_123, n_125, n_128, n_144, n_200, n_255, n_256, n_300, n_400, n_600, n_1536, n_3980, n_4000, n_4001, n_4300, n_65536, l_0, l_1, l_2, l_3, l_4, l_10, l_48, l_63, l_255, l_300, nI_ltI, nI_leI, nI_eq, nI_clamp, nI_add, pk_sub, pk_mul, nI_ne1, ne1_nI, nI_pge, nI_nlt0, nI_l, lN_i, lN_add, lN_mul, lN_sub, pk_lLT, pk_lLE, pk_lEQ, lg_lt, lg_ge, lg_eq0, lg_le, lg_gt, lg_ltn, lg_gen, lg_eq0n, lg_len, lg_gtn, Nat.zero_le, Nat.not_lt_zero, not_false_eq_true, not_true_eq_false, true_and, and_true, r5]; omega) | omega)) ?_
  exact o_pos (by decide) (o_pos ⟨s1, k9⟩ (o_bind CC.1.2.2.2.1 (o_pos ⟨u1, u2⟩ (o_bind (CC.atS W ho) rfl))))
theorem e_r_partCount {i : Nat} (R : RC h S n a y sg sd so o e p) (W : WF sg sd) (v : NV sg y n i so o e p) : f_r_partCount S h = some (nI (pc sg y so o p), h) := by
  have r5 := R.1.1
  have a4 := R.1.2
  have n4 := R.2.2.2.2.1
  have CC := R.2.2.2.2.2.2
  have ca : (nI a).toNatClampNeg = a := nI_clamp (by omega)
  have v2 := v
  unfold f_r_partCount b_r_partCount_35
  refine o_bind (e_r_isAtHand R) (o_pos one0 ?_)
  dsimp only
  rw [r5, ca, R.2.1.1]
  refine o_pos (by (first | (simp (maxSteps := 4000000) (disch := omega) only [n_0, n_1, n_2, n_3, n_4, n_5, n_6, n_7, n_8, n_9, n_10, n_11, n_12, n_13, n_14, n_15, n_16, n_18, n_20, n_24, n_31, n_32, n_34, n_40, n_41, n_44, n_45, n_47, n_48, n_57, n_58, n_59, n_61, n_63, n_64, n_65, n_68, n_90, n_91, n_93, n_95, n_97, n_100, n_122, n_123, n_125, n_128, n_144, n_200, n_255, n_256, n_300, n_400, n_600, n_1536, n_3980, n_4000, n_4001, n_4300, n_65536, l_0, l_1, l_2, l_3, l_4, l_10, l_48, l_63, l_255, l_300, nI_ltI, nI_leI, nI_eq, nI_clamp, nI_add, pk_sub, pk_mul, nI_ne1, ne1_nI, nI_pge, nI_nlt0, nI_l, lN_i, lN_add, lN_mul, lN_sub, pk_lLT, pk_lLE, pk_lEQ, lg_lt, lg_ge, lg_eq0, lg_le, lg_gt, lg_ltn, lg_gen, lg_eq0n, lg_len, lg_gtn, Nat.zero_le, Nat.not_lt_zero, not_false_eq_true, not_true_eq_false, true_and, and_true, r5]; done) | (simp (maxSteps := 4000000) (disch := omega) only [n_0, n_1, n_2, n_3, n_4, n_5, n_6, n_7, n_8, n_9, n_10, n_11, n_12, n_13, n_14, n_15, n_16, n_18, n_20, n_24, n_31, n_32, n_34, n_40, n_41, n_44, n_45, n_47, n_48, n_57, n_58, n_59, n_61, n_63, n_64, n_65, n_68, n_90, n_91, n_93, n_95, n_97, n_100, n_122, n_123, n_125, n_128, n_144, n_200, n_255, n_256, n_300, n_400, n_600, n_1536, n_3980, n_4000, n_4001, n_4300, n_65536, l_0, l_1, l_2, l_3, l_4, l_10, l_48, l_63, l_255, l_300, nI_ltI, nI_leI, nI_eq, nI_clamp, nI_add, pk_sub, pk_mul, nI_ne1, ne1_nI, nI_pge, nI_nlt0, nI_l, lN_i, lN_add, lN_mul, lN_sub, pk_lLT, pk_lLE, pk_lEQ, lg_lt, lg_ge, lg_eq0, lg_le, lg_gt, lg_ltn, lg_gen, lg_eq0n, lg_len, lg_gtn, Nat.zero_le, Nat.not_lt_zero, not_false_eq_true, not_true_eq_false, true_and, and_true, r5]; omega) | omega)) ?_
  rcases v with ⟨k, -, d, -, t⟩ | ⟨k, -, d, -, t⟩ | ⟨k, -, -, -, t⟩ | ⟨k, -, t, -⟩ <;> subst k
  · have ho := t.2.2.2.1
    have D := CC.1.ddT (Nat.lt_of_lt_of_le ho W.1.2.1)
    have d1 : dT S o < hz h := by have := D.1; omega
    refine o_neg (by decide) (o_pos (by decide) (o_bind (e_r_definitionT R W ho) (o_elim (o_pos ⟨d1, D.2.2.2.2.1⟩ ?_))))
    show some (hi h (dT S o) 3, h) = _
    rw [(CC.2.2.2.1 o ho).1.1]; rfl
  · have eN := R.num (i := p) (k := 4) (by decide) (by have := t.2.1; omega)
    rw [← R.2.1.2.2.2] at eN
    refine o_pos (by decide) (o_pos (by (first | (simp (maxSteps := 4000000) (disch := omega) only [n_0, n_1, n_2, n_3, n_4, n_5, n_6, n_7, n_8, n_9, n_10, n_11, n_12, n_13, n_14, n_15, n_16, n_18, n_20, n_24, n_31, n_32, n_34, n_40, n_41, n_44, n_45, n_47, n_48, n_57, n_58, n_59, n_61, n_63, n_64, n_65, n_68, n_90, n_91, n_93, n_95, n_97, n_100, n_122, n_123, n_125, n_128, n_144, n_200, n_255, n_256, n_300, n_400, n_600, n_1536, n_3980, n_4000, n_4001, n_4300, n_65536, l_0, l_1, l_2, l_3, l_4, l_10, l_48, l_63, l_255, l_300, nI_ltI, nI_leI, nI_eq, nI_clamp, nI_add, pk_sub, pk_mul, nI_ne1, ne1_nI, nI_pge, nI_nlt0, nI_l, lN_i, lN_add, lN_mul, lN_sub, pk_lLT, pk_lLE, pk_lEQ, lg_lt, lg_ge, lg_eq0, lg_le, lg_gt, lg_ltn, lg_gen, lg_eq0n, lg_len, lg_gtn, Nat.zero_le, Nat.not_lt_zero, not_false_eq_true, not_true_eq_false, true_and, and_true, r5]; done) | (simp (maxSteps := 4000000) (disch := omega) only [n_0, n_1, n_2, n_3, n_4, n_5, n_6, n_7, n_8, n_9, n_10, n_11, n_12, n_13, n_14, n_15, n_16, n_18, n_20, n_24, n_31, n_32, n_34, n_40, n_41, n_44, n_45, n_47, n_48, n_57, n_58, n_59, n_61, n_63, n_64, n_65, n_68, n_90, n_91, n_93, n_95, n_97, n_100, n_122, n_123, n_125, n_128, n_144, n_200, n_255, n_256, n_300, n_400, n_600, n_1536, n_3980, n_4000, n_4001, n_4300, n_65536, l_0, l_1, l_2, l_3, l_4, l_10, l_48, l_63, l_255, l_300, nI_ltI, nI_leI, nI_eq, nI_clamp, nI_add, pk_sub, pk_mul, nI_ne1, ne1_nI, nI_pge, nI_nlt0, nI_l, lN_i, lN_add, lN_mul, lN_sub, pk_lLT, pk_lLE, pk_lEQ, lg_lt, lg_ge, lg_eq0, lg_le, lg_gt, lg_ltn, lg_gen, lg_eq0n, lg_len, lg_gtn, Nat.zero_le, Nat.not_lt_zero, not_false_eq_true, not_true_eq_false, true_and, and_true, r5]; omega) | omega)) (o_bind eN ?_))
    show some ((lN (nb y 4 p)).toInt32, h) = _
    rw [lN_i]; rfl
  · have eN := R.num (i := p) (k := 4) (by decide) (by omega)
    rw [← R.2.1.2.2.2] at eN
    refine o_neg (by decide) (o_neg (by decide) (o_pos (by (first | (simp (maxSteps := 4000000) (disch := omega) only [n_0, n_1, n_2, n_3, n_4, n_5, n_6, n_7, n_8, n_9, n_10, n_11, n_12, n_13, n_14, n_15, n_16, n_18, n_20, n_24, n_31, n_32, n_34, n_40, n_41, n_44, n_45, n_47, n_48, n_57, n_58, n_59, n_61, n_63, n_64, n_65, n_68, n_90, n_91, n_93, n_95, n_97, n_100, n_122, n_123, n_125, n_128, n_144, n_200, n_255, n_256, n_300, n_400, n_600, n_1536, n_3980, n_4000, n_4001, n_4300, n_65536, l_0, l_1, l_2, l_3, l_4, l_10, l_48, l_63, l_255, l_300, nI_ltI, nI_leI, nI_eq, nI_clamp, nI_add, pk_sub, pk_mul, nI_ne1, ne1_nI, nI_pge, nI_nlt0, nI_l, lN_i, lN_add, lN_mul, lN_sub, pk_lLT, pk_lLE, pk_lEQ, lg_lt, lg_ge, lg_eq0, lg_le, lg_gt, lg_ltn, lg_gen, lg_eq0n, lg_len, lg_gtn, Nat.zero_le, Nat.not_lt_zero, not_false_eq_true, not_true_eq_false, true_and, and_true, r5]; done) | (simp (maxSteps := 4000000) (disch := omega) only [n_0, n_1, n_2, n_3, n_4, n_5, n_6, n_7, n_8, n_9, n_10, n_11, n_12, n_13, n_14, n_15, n_16, n_18, n_20, n_24, n_31, n_32, n_34, n_40, n_41, n_44, n_45, n_47, n_48, n_57, n_58, n_59, n_61, n_63, n_64, n_65, n_68, n_90, n_91, n_93, n_95, n_97, n_100, n_122, n_123, n_125, n_128, n_144, n_200, n_255, n_256, n_300, n_400, n_600, n_1536, n_3980, n_4000, n_4001, n_4300, n_65536, l_0, l_1, l_2, l_3, l_4, l_10, l_48, l_63, l_255, l_300, nI_ltI, nI_leI, nI_eq, nI_clamp, nI_add, pk_sub, pk_mul, nI_ne1, ne1_nI, nI_pge, nI_nlt0, nI_l, lN_i, lN_add, lN_mul, lN_sub, pk_lLT, pk_lLE, pk_lEQ, lg_lt, lg_ge, lg_eq0, lg_le, lg_gt, lg_ltn, lg_gen, lg_eq0n, lg_len, lg_gtn, Nat.zero_le, Nat.not_lt_zero, not_false_eq_true, not_true_eq_false, true_and, and_true, r5]; omega) | omega)) (o_bind eN ?_)))
    show some ((lN (nb y 4 p)).toInt32, h) = _
    rw [lN_i]; rfl
  · have D := CC.1.ddS (Nat.lt_of_lt_of_le t W.1.1)
    have d1 : dS S o < hz h := by have := D.1; omega
    refine o_neg (by decide) (o_pos (by decide) (o_bind (e_r_definitionS R W t) (o_elim (o_pos ⟨d1, D.2.2.2.2.1⟩ ?_))))
    show some (hi h (dS S o) 3, h) = _
    rw [(CC.2.2.1 o t).1.1]; rfl
/-- where a slot of the table at p is stored -/
def sA (y : Nat → Nat) (p s : Nat) : Int32 := if fr y (la y p) s = 0 then -1 else nI (p + fr y (la y p) s)
theorem jl_pos (hj' : (jl y n p).1 = 0) : ¬ (nb y 4 p < 2147483648 ∧ p < nb y 4 p) := by
  intro z
  unfold jl at hj'
  rw [if_pos (Or.inl z)] at hj'
  cases hj'
theorem e_b_storedAt {b cl s : Nat} (B : BY h b cl) (hn' : n ≤ 4000) (hp : p + 4 ≤ n) (hj' : (jl (cb h cl) n p).1 = 0) (hs : s ≤ 100) : f_b_storedAt b (nI p) (nI s) h = some (sA (cb h cl) p s, h) := by
  have ok := jl_ok hj'
  have e1 := e_b_listOf B (p := p) (by omega)
  rw [lv_pos (cb_lt h cl) (by omega) (jl_pos hj')] at e1
  have e2 := e_b_slotNumber B (l := la (cb h cl) p) (s := s) (by omega) hs (by omega)
  have fl := fr_lt (cb_lt h cl) (l := la (cb h cl) p) (s := s)
  rw [← lN_i] at e2
  have r5 := hn'
  unfold f_b_storedAt sA
  refine o_pos ⟨B.1, B.2.1⟩ (o_bind e1 (o_pos ⟨B.1, B.2.1⟩ (o_bind e2 ?_)))
  by_cases c : fr (cb h cl) (la (cb h cl) p) s = 0
  · rw [if_pos c]
    refine o_neg (by (first | (simp (maxSteps := 4000000) (disch := omega) only [n_0, n_1, n_2, n_3, n_4, n_5, n_6, n_7, n_8, n_9, n_10, n_11, n_12, n_13, n_14, n_15, n_16, n_18, n_20, n_24, n_31, n_32, n_34, n_40, n_41, n_44, n_45, n_47, n_48, n_57, n_58, n_59, n_61, n_63, n_64, n_65, n_68, n_90, n_91, n_93, n_95, n_97, n_100, n_122, n_123, n_125, n_128, n_144, n_200, n_255, n_256, n_300, n_400, n_600, n_1536, n_3980, n_4000, n_4001, n_4300, n_65536, l_0, l_1, l_2, l_3, l_4, l_10, l_48, l_63, l_255, l_300, nI_ltI, nI_leI, nI_eq, nI_clamp, nI_add, pk_sub, pk_mul, nI_ne1, ne1_nI, nI_pge, nI_nlt0, nI_l, lN_i, lN_add, lN_mul, lN_sub, pk_lLT, pk_lLE, pk_lEQ, lg_lt, lg_ge, lg_eq0, lg_le, lg_gt, lg_ltn, lg_gen, lg_eq0n, lg_len, lg_gtn, Nat.zero_le, Nat.not_lt_zero, not_false_eq_true, not_true_eq_false, true_and, and_true, r5]; done) | (simp (maxSteps := 4000000) (disch := omega) only [n_0, n_1, n_2, n_3, n_4, n_5, n_6, n_7, n_8, n_9, n_10, n_11, n_12, n_13, n_14, n_15, n_16, n_18, n_20, n_24, n_31, n_32, n_34, n_40, n_41, n_44, n_45, n_47, n_48, n_57, n_58, n_59, n_61, n_63, n_64, n_65, n_68, n_90, n_91, n_93, n_95, n_97, n_100, n_122, n_123, n_125, n_128, n_144, n_200, n_255, n_256, n_300, n_400, n_600, n_1536, n_3980, n_4000, n_4001, n_4300, n_65536, l_0, l_1, l_2, l_3, l_4, l_10, l_48, l_63, l_255, l_300, nI_ltI, nI_leI, nI_eq, nI_clamp, nI_add, pk_sub, pk_mul, nI_ne1, ne1_nI, nI_pge, nI_nlt0, nI_l, lN_i, lN_add, lN_mul, lN_sub, pk_lLT, pk_lLE, pk_lEQ, lg_lt, lg_ge, lg_eq0, lg_le, lg_gt, lg_ltn, lg_gen, lg_eq0n, lg_len, lg_gtn, Nat.zero_le, Nat.not_lt_zero, not_false_eq_true, not_true_eq_false, true_and, and_true, r5]; omega) | omega)) ?_
    rfl
  · rw [if_neg c]
    refine o_pos (by (first | (simp (maxSteps := 4000000) (disch := omega) only [n_0, n_1, n_2, n_3, n_4, n_5, n_6, n_7, n_8, n_9, n_10, n_11, n_12, n_13, n_14, n_15, n_16, n_18, n_20, n_24, n_31, n_32, n_34, n_40, n_41, n_44, n_45, n_47, n_48, n_57, n_58, n_59, n_61, n_63, n_64, n_65, n_68, n_90, n_91, n_93, n_95, n_97, n_100, n_122, n_123, n_125, n_128, n_144, n_200, n_255, n_256, n_300, n_400, n_600, n_1536, n_3980, n_4000, n_4001, n_4300, n_65536, l_0, l_1, l_2, l_3, l_4, l_10, l_48, l_63, l_255, l_300, nI_ltI, nI_leI, nI_eq, nI_clamp, nI_add, pk_sub, pk_mul, nI_ne1, ne1_nI, nI_pge, nI_nlt0, nI_l, lN_i, lN_add, lN_mul, lN_sub, pk_lLT, pk_lLE, pk_lEQ, lg_lt, lg_ge, lg_eq0, lg_le, lg_gt, lg_ltn, lg_gen, lg_eq0n, lg_len, lg_gtn, Nat.zero_le, Nat.not_lt_zero, not_false_eq_true, not_true_eq_false, true_and, and_true, r5]; done) | (simp (maxSteps := 4000000) (disch := omega) only [n_0, n_1, n_2, n_3, n_4, n_5, n_6, n_7, n_8, n_9, n_10, n_11, n_12, n_13, n_14, n_15, n_16, n_18, n_20, n_24, n_31, n_32, n_34, n_40, n_41, n_44, n_45, n_47, n_48, n_57, n_58, n_59, n_61, n_63, n_64, n_65, n_68, n_90, n_91, n_93, n_95, n_97, n_100, n_122, n_123, n_125, n_128, n_144, n_200, n_255, n_256, n_300, n_400, n_600, n_1536, n_3980, n_4000, n_4001, n_4300, n_65536, l_0, l_1, l_2, l_3, l_4, l_10, l_48, l_63, l_255, l_300, nI_ltI, nI_leI, nI_eq, nI_clamp, nI_add, pk_sub, pk_mul, nI_ne1, ne1_nI, nI_pge, nI_nlt0, nI_l, lN_i, lN_add, lN_mul, lN_sub, pk_lLT, pk_lLE, pk_lEQ, lg_lt, lg_ge, lg_eq0, lg_le, lg_gt, lg_ltn, lg_gen, lg_eq0n, lg_len, lg_gtn, Nat.zero_le, Nat.not_lt_zero, not_false_eq_true, not_true_eq_false, true_and, and_true, r5]; omega) | omega)) ?_
    show some (nI p + nI _, h) = _
    rw [nI_add]
end RCls
