/-! The builder: what is put of an element -/

/-- the bytes of a struct, by its first l scalars -/
def sB (sg : SGT) (t : Nat) (V : Nat → Int64) (j : Nat) : Nat → Nat
  | 0 => 0
  | l + 1 => if sg 9 (128 * t + l) ≤ j ∧ j < sg 9 (128 * t + l) + bO (sg 8 (128 * t + l)) then v8 (V l) (j - sg 9 (128 * t + l)) else sB sg t V j l
section Cont
variable {h g : XH} {S t : Nat} {sg : SGT} {sd : Nat → Int64} {V : Nat → Int64}
theorem sB_lt (j : Nat) : ∀ l, sB sg t V j l < 256
  | 0 => by unfold sB; decide
  | l + 1 => by
    unfold sB
    split
    · exact v8_lt _ _
    · exact sB_lt j l
theorem sB_cg {V' : Nat → Int64} (j : Nat) : ∀ c, (∀ l, l < c → V l = V' l) → sB sg t V j c = sB sg t V' j c
  | 0, _ => rfl
  | c + 1, q => by
    rw [sB, sB, q c (by omega), sB_cg j c (fun l hl => q l (by omega))]
theorem sB_hi {j k : Nat} : ∀ d, (∀ l, k ≤ l → l < k + d → j < sg 9 (128 * t + l)) → sB sg t V j (k + d) = sB sg t V j k
  | 0, _ => rfl
  | d + 1, q => by
    have := q (k + d) (by omega) (by omega)
    show sB sg t V j (k + d + 1) = _
    rw [sB, if_neg (by omega)]
    exact sB_hi d (fun l h1 h2 => q l h1 (by omega))
theorem sB_lo {j : Nat} : ∀ k, (∀ l, l < k → sg 9 (128 * t + l) + bO (sg 8 (128 * t + l)) ≤ j) → sB sg t V j k = 0
  | 0, _ => rfl
  | k + 1, q => by
    have := q k (by omega)
    rw [sB, if_neg (by omega)]
    exact sB_lo k (fun l hl => q l (by omega))
theorem WF.sort (W : WF sg sd) (ht : t < sg 0 0) : ∀ d l, l + 1 + d < sg 7 t → sg 9 (128 * t + l) + bO (sg 8 (128 * t + l)) ≤ sg 9 (128 * t + (l + 1 + d))
  | 0, l, q => (W.2.1 t ht).2.2.2 l (by omega)
  | d + 1, l, q => by
    have h1 := W.sort ht d l (by omega)
    have h2 := (W.2.1 t ht).2.2.2 (l + 1 + d) (by omega)
    rw [show l + 1 + (d + 1) = l + 1 + d + 1 by omega]
    omega
theorem WF.sort2 (W : WF sg sd) (ht : t < sg 0 0) {l k : Nat} (h1 : l < k) (h2 : k < sg 7 t) : sg 9 (128 * t + l) + bO (sg 8 (128 * t + l)) ≤ sg 9 (128 * t + k) := by
  have := W.sort ht (k - l - 1) l (by omega)
  rw [show l + 1 + (k - l - 1) = k by omega] at this
  exact this
theorem e_w_at (L : LY h) {k : Nat} (hk' : k < 600) : f_w_at 5 (nI k) h = some (hj h 6 k, h) := by
  unfold f_w_at
  refine o_neg (by (first | (simp (maxSteps := 4000000) (disch := omega) only [n_0, n_1, n_2, n_3, n_4, n_5, n_6, n_7, n_8, n_9, n_10, n_11, n_12, n_13, n_14, n_15, n_16, n_18, n_20, n_24, n_31, n_32, n_34, n_40, n_41, n_44, n_45, n_47, n_48, n_57, n_58, n_59, n_61, n_63, n_64, n_65, n_68, n_90, n_91, n_93, n_95, n_97, n_100, n_122, n_123, n_125, n_128, n_144, n_200, n_255, n_256, n_300, n_400, n_600, n_1536, n_3980, n_4000, n_4001, n_4300, n_65536, l_0, l_1, l_2, l_3, l_4, l_10, l_48, l_63, l_255, l_300, nI_ltI, nI_leI, nI_eq, nI_clamp, nI_add, pk_sub, pk_mul, nI_ne1, ne1_nI, nI_pge, nI_nlt0, nI_l, lN_i, lN_add, lN_mul, lN_sub, pk_lLT, pk_lLE, pk_lEQ, lg_lt, lg_ge, lg_eq0, lg_le, lg_gt, lg_ltn, lg_gen, lg_eq0n, lg_len, lg_gtn, Nat.zero_le, Nat.not_lt_zero, not_false_eq_true, not_true_eq_false, true_and, and_true]; done) | (simp (maxSteps := 4000000) (disch := omega) only [n_0, n_1, n_2, n_3, n_4, n_5, n_6, n_7, n_8, n_9, n_10, n_11, n_12, n_13, n_14, n_15, n_16, n_18, n_20, n_24, n_31, n_32, n_34, n_40, n_41, n_44, n_45, n_47, n_48, n_57, n_58, n_59, n_61, n_63, n_64, n_65, n_68, n_90, n_91, n_93, n_95, n_97, n_100, n_122, n_123, n_125, n_128, n_144, n_200, n_255, n_256, n_300, n_400, n_600, n_1536, n_3980, n_4000, n_4001, n_4300, n_65536, l_0, l_1, l_2, l_3, l_4, l_10, l_48, l_63, l_255, l_300, nI_ltI, nI_leI, nI_eq, nI_clamp, nI_add, pk_sub, pk_mul, nI_ne1, ne1_nI, nI_pge, nI_nlt0, nI_l, lN_i, lN_add, lN_mul, lN_sub, pk_lLT, pk_lLE, pk_lEQ, lg_lt, lg_ge, lg_eq0, lg_le, lg_gt, lg_ltn, lg_gen, lg_eq0n, lg_len, lg_gtn, Nat.zero_le, Nat.not_lt_zero, not_false_eq_true, not_true_eq_false, true_and, and_true]; omega) | omega)) (o_pos ⟨L.lt (by decide), L.k5⟩ (o_bind L.r5_0 (o_pos ⟨L.lt (by decide), L.k6⟩ ?_)))
  rw [L.n6, nI_clamp (show k < 2 ^ 31 by omega)]
  exact o_neg (by (first | (simp (maxSteps := 4000000) (disch := omega) only [n_0, n_1, n_2, n_3, n_4, n_5, n_6, n_7, n_8, n_9, n_10, n_11, n_12, n_13, n_14, n_15, n_16, n_18, n_20, n_24, n_31, n_32, n_34, n_40, n_41, n_44, n_45, n_47, n_48, n_57, n_58, n_59, n_61, n_63, n_64, n_65, n_68, n_90, n_91, n_93, n_95, n_97, n_100, n_122, n_123, n_125, n_128, n_144, n_200, n_255, n_256, n_300, n_400, n_600, n_1536, n_3980, n_4000, n_4001, n_4300, n_65536, l_0, l_1, l_2, l_3, l_4, l_10, l_48, l_63, l_255, l_300, nI_ltI, nI_leI, nI_eq, nI_clamp, nI_add, pk_sub, pk_mul, nI_ne1, ne1_nI, nI_pge, nI_nlt0, nI_l, lN_i, lN_add, lN_mul, lN_sub, pk_lLT, pk_lLE, pk_lEQ, lg_lt, lg_ge, lg_eq0, lg_le, lg_gt, lg_ltn, lg_gen, lg_eq0n, lg_len, lg_gtn, Nat.zero_le, Nat.not_lt_zero, not_false_eq_true, not_true_eq_false, true_and, and_true]; done) | (simp (maxSteps := 4000000) (disch := omega) only [n_0, n_1, n_2, n_3, n_4, n_5, n_6, n_7, n_8, n_9, n_10, n_11, n_12, n_13, n_14, n_15, n_16, n_18, n_20, n_24, n_31, n_32, n_34, n_40, n_41, n_44, n_45, n_47, n_48, n_57, n_58, n_59, n_61, n_63, n_64, n_65, n_68, n_90, n_91, n_93, n_95, n_97, n_100, n_122, n_123, n_125, n_128, n_144, n_200, n_255, n_256, n_300, n_400, n_600, n_1536, n_3980, n_4000, n_4001, n_4300, n_65536, l_0, l_1, l_2, l_3, l_4, l_10, l_48, l_63, l_255, l_300, nI_ltI, nI_leI, nI_eq, nI_clamp, nI_add, pk_sub, pk_mul, nI_ne1, ne1_nI, nI_pge, nI_nlt0, nI_l, lN_i, lN_add, lN_mul, lN_sub, pk_lLT, pk_lLE, pk_lEQ, lg_lt, lg_ge, lg_eq0, lg_le, lg_gt, lg_ltn, lg_gen, lg_eq0n, lg_len, lg_gtn, Nat.zero_le, Nat.not_lt_zero, not_false_eq_true, not_true_eq_false, true_and, and_true]; omega) | omega)) (o_pos ⟨nI_pos' (by omega), by (first | (simp (maxSteps := 4000000) (disch := omega) only [n_0, n_1, n_2, n_3, n_4, n_5, n_6, n_7, n_8, n_9, n_10, n_11, n_12, n_13, n_14, n_15, n_16, n_18, n_20, n_24, n_31, n_32, n_34, n_40, n_41, n_44, n_45, n_47, n_48, n_57, n_58, n_59, n_61, n_63, n_64, n_65, n_68, n_90, n_91, n_93, n_95, n_97, n_100, n_122, n_123, n_125, n_128, n_144, n_200, n_255, n_256, n_300, n_400, n_600, n_1536, n_3980, n_4000, n_4001, n_4300, n_65536, l_0, l_1, l_2, l_3, l_4, l_10, l_48, l_63, l_255, l_300, nI_ltI, nI_leI, nI_eq, nI_clamp, nI_add, pk_sub, pk_mul, nI_ne1, ne1_nI, nI_pge, nI_nlt0, nI_l, lN_i, lN_add, lN_mul, lN_sub, pk_lLT, pk_lLE, pk_lEQ, lg_lt, lg_ge, lg_eq0, lg_le, lg_gt, lg_ltn, lg_gen, lg_eq0n, lg_len, lg_gtn, Nat.zero_le, Nat.not_lt_zero, not_false_eq_true, not_true_eq_false, true_and, and_true]; done) | (simp (maxSteps := 4000000) (disch := omega) only [n_0, n_1, n_2, n_3, n_4, n_5, n_6, n_7, n_8, n_9, n_10, n_11, n_12, n_13, n_14, n_15, n_16, n_18, n_20, n_24, n_31, n_32, n_34, n_40, n_41, n_44, n_45, n_47, n_48, n_57, n_58, n_59, n_61, n_63, n_64, n_65, n_68, n_90, n_91, n_93, n_95, n_97, n_100, n_122, n_123, n_125, n_128, n_144, n_200, n_255, n_256, n_300, n_400, n_600, n_1536, n_3980, n_4000, n_4001, n_4300, n_65536, l_0, l_1, l_2, l_3, l_4, l_10, l_48, l_63, l_255, l_300, nI_ltI, nI_leI, nI_eq, nI_clamp, nI_add, pk_sub, pk_mul, nI_ne1, ne1_nI, nI_pge, nI_nlt0, nI_l, lN_i, lN_add, lN_mul, lN_sub, pk_lLT, pk_lLE, pk_lEQ, lg_lt, lg_ge, lg_eq0, lg_le, lg_gt, lg_ltn, lg_gen, lg_eq0n, lg_len, lg_gtn, Nat.zero_le, Nat.not_lt_zero, not_false_eq_true, not_true_eq_false, true_and, and_true]; omega) | omega), by decide⟩ rfl)
/-- the class puts a struct -/
theorem e_u_struct {p i : Nat} (L : LY h) (C : CS h S sg sd) (W : WF sg sd) (hS : S + 616 ≤ 1244) (ht : t < sg 0 0) (hi' : i * sg 7 t + sg 7 t ≤ 600) (hp : p + sg 2 t ≤ 4000) (z : ∀ j, j < sg 2 t → cb h 1246 (p + j) = 0) : ∃ g, f_u_putStruct (dS S t) (nI p) 5 (nI i) h = some ((), g) ∧ FRM (fun a _ => a = 1246) h g ∧ (∀ j, j < sg 2 t → cb g 1246 (p + j) = sB sg t (fun l => hj h 6 (i * sg 7 t + l)) j (sg 7 t)) ∧ ∀ m, m < p ∨ p + sg 2 t ≤ m → hi g 1246 m = hi h 1246 m := by
  have w := W.2.1 t ht
  have D := C.1.ddS (Nat.lt_of_lt_of_le ht W.1.1)
  have d1 : dS S t < hz h := by have := D.1; omega
  have d5 := D.2.2.2.2.1
  have w0 := W.1
  have dSl : S ≤ dS S t ∧ dS S t + 16 ≤ S + 616 := by unfold dS; omega
  have e11 := (C.2.2.1 t ht).1.2.2.2
  have lp : ∀ r l fuel g0, l + r = sg 7 t → r < fuel → FRM (fun a _ => a = 1246) h g0 → (∀ j, j < sg 2 t → cb g0 1246 (p + j) = sB sg t (fun l => hj h 6 (i * sg 7 t + l)) j l) → (∀ m, m < p ∨ p + sg 2 t ≤ m → hi g0 1246 m = hi h 1246 m) → ∃ g, b_u_putStruct_17 fuel (dS S t) (nI p) 5 (nI (i * sg 7 t)) (nI l) g0 = some ((), g) ∧ FRM (fun a _ => a = 1246) h g ∧ (∀ j, j < sg 2 t → cb g 1246 (p + j) = sB sg t (fun l => hj h 6 (i * sg 7 t + l)) j (sg 7 t)) ∧ ∀ m, m < p ∨ p + sg 2 t ≤ m → hi g 1246 m = hi h 1246 m := by
    intro r
    induction r with
    | zero =>
      intro l fuel g0 e hf F q1 q2
      obtain ⟨f, rfl, -⟩ := fuel_pos hf
      have el : l = sg 7 t := by omega
      subst el
      refine ⟨g0, ?_, F, q1, q2⟩
      show s_u_putStruct_17 (b_u_putStruct_17 f) _ _ _ _ _ _ = _
      unfold s_u_putStruct_17
      refine o_pos ⟨by rw [F.1.1]; exact d1, by rw [F.1.2.2.1]; exact d5⟩ (o_pos ?_ rfl)
      rw [F.at (by omega), e11]
      exact Int32.le_refl _
    | succ r ih =>
      intro l fuel g0 e hf F q1 q2
      obtain ⟨f, rfl, -⟩ := fuel_pos hf
      have lf := w.2.2.1 l (by omega)
      have bb := bO_le (sg 8 (128 * t + l))
      obtain ⟨lv1, lv2⟩ := (C.2.2.1 t ht).2.2 l (by omega)
      have L0 : LY g0 := by rw [F.ly]; exact L
      have Dg : DF g0 (dS S t) 12 128 := by
        have : SC g0 S := by rw [F.sc]; exact C.1
        exact this.ddS (Nat.lt_of_lt_of_le ht W.1.1)
      have cnt := w.1
      have e1 := e_d_leafScalar (k := l) Dg (by omega)
      have e2 := e_d_leafPlace (k := l) Dg (by omega)
      rw [F.at (by omega), lv1] at e1
      rw [F.at (by omega), lv2] at e2
      obtain ⟨g1, y1, F1, y2, y3⟩ := e_u_put (h := g0) (i := p + sg 9 (128 * t + l)) (k := bO (sg 8 (128 * t + l))) (v := hj h 6 (i * sg 7 t + l)) L0.b1245 (by omega) (by omega)
      obtain ⟨g2, z1, z2⟩ := ih (l + 1) f g1 (by omega) (by omega) (F.trans F1) (fun j hj' => by
        rw [sB]
        by_cases c : sg 9 (128 * t + l) ≤ j ∧ j < sg 9 (128 * t + l) + bO (sg 8 (128 * t + l))
        · rw [if_pos c]
          have := y2 (j - sg 9 (128 * t + l)) (by omega)
          rw [show p + sg 9 (128 * t + l) + (j - sg 9 (128 * t + l)) = p + j by omega] at this
          exact this
        · rw [if_neg c, ← q1 j hj']
          unfold cb
          rw [y3 (p + j) (by omega)]) (fun m hm => by rw [y3 m (by omega)]; exact q2 m hm)
      refine ⟨g2, ?_, z2⟩
      show s_u_putStruct_17 (b_u_putStruct_17 f) _ _ _ _ _ _ = _
      unfold s_u_putStruct_17
      refine o_pos ⟨by rw [F.1.1]; exact d1, by rw [F.1.2.2.1]; exact d5⟩ (o_neg ?_ (o_bind e1 (o_bind (e_t_scalarBytes lf.1) (o_pos ⟨by rw [F.1.1]; exact d1, by rw [F.1.2.2.1]; exact d5⟩ (o_bind e2 (o_pos ⟨L0.lt (by decide), L0.k5⟩ ?_))))))
      · rw [F.at (by omega), e11]
        (first | (simp (maxSteps := 4000000) (disch := omega) only [n_0, n_1, n_2, n_3, n_4, n_5, n_6, n_7, n_8, n_9, n_10, n_11, n_12, n_13, n_14, n_15, n_16, n_18, n_20, n_24, n_31, n_32, n_34, n_40, n_41, n_44, n_45, n_47, n_48, n_57, n_58, n_59, n_61, n_63, n_64, n_65, n_68, n_90, n_91, n_93, n_95, n_97, n_100, n_122, n_123, n_125, n_128, n_144, n_200, n_255, n_256, n_300, n_400, n_600, n_1536, n_3980, n_4000, n_4001, n_4300, n_65536, l_0, l_1, l_2, l_3, l_4, l_10, l_48, l_63, l_255, l_300, nI_ltI, nI_leI, nI_eq, nI_clamp, nI_add, pk_sub, pk_mul, nI_ne1, ne1_nI, nI_pge, nI_nlt0, nI_l, lN_i, lN_add, lN_mul, lN_sub, pk_lLT, pk_lLE, pk_lEQ, lg_lt, lg_ge, lg_eq0, lg_le, lg_gt, lg_ltn, lg_gen, lg_eq0n, lg_len, lg_gtn, Nat.zero_le, Nat.not_lt_zero, not_false_eq_true, not_true_eq_false, true_and, and_true]; done) | (simp (maxSteps := 4000000) (disch := omega) only [n_0, n_1, n_2, n_3, n_4, n_5, n_6, n_7, n_8, n_9, n_10, n_11, n_12, n_13, n_14, n_15, n_16, n_18, n_20, n_24, n_31, n_32, n_34, n_40, n_41, n_44, n_45, n_47, n_48, n_57, n_58, n_59, n_61, n_63, n_64, n_65, n_68, n_90, n_91, n_93, n_95, n_97, n_100, n_122, n_123, n_125, n_128, n_144, n_200, n_255, n_256, n_300, n_400, n_600, n_1536, n_3980, n_4000, n_4001, n_4300, n_65536, l_0, l_1, l_2, l_3, l_4, l_10, l_48, l_63, l_255, l_300, nI_ltI, nI_leI, nI_eq, nI_clamp, nI_add, pk_sub, pk_mul, nI_ne1, ne1_nI, nI_pge, nI_nlt0, nI_l, lN_i, lN_add, lN_mul, lN_sub, pk_lLT, pk_lLE, pk_lEQ, lg_lt, lg_ge, lg_eq0, lg_le, lg_gt, lg_ltn, lg_gen, lg_eq0n, lg_len, lg_gtn, Nat.zero_le, Nat.not_lt_zero, not_false_eq_true, not_true_eq_false, true_and, and_true]; omega) | omega)
      · dsimp only
        rw [nI_add]
        refine o_bind (e_w_at L0 (by omega)) ?_
        dsimp only
        rw [F.hj (by decide), nI_add]
        refine o_bind y1 ?_
        rw [n_1, nI_add]
        exact z1
  obtain ⟨g, z1, z2⟩ := lp (sg 7 t) 0 100000 h (by omega) (by have := w.1; omega) FRM.refl z (fun _ _ => rfl)
  refine ⟨g, ?_, z2⟩
  unfold f_u_putStruct
  refine o_pos ⟨d1, d5⟩ ?_
  rw [e11, pk_mul]
  exact z1
/-- the model puts a struct -/
theorem e_m_struct {n b : Nat} (M : MS h sg sd) (W : WF sg sd) (ht : t < sg 0 0) (hb : b + sg 7 t ≤ 600) (e : hi h 1262 57 = nI n) (hn' : n + sg 2 t ≤ 4300) : ∃ g, f_m_putStruct (nI t) (nI b) h = some ((), g) ∧ FRM mP h g ∧ hi g 1262 57 = nI (n + sg 2 t) ∧ (∀ i, i < n → hi g 1299 i = hi h 1299 i) ∧ ∀ j, j < sg 2 t → hi g 1299 (n + (sg 2 t - 1 - j)) = nI (sB sg t (fun l => hj h 1298 (b + l)) j (sg 7 t)) := by
  have w := W.2.1 t ht
  have w0 := W.1
  have cnt := w.1
  obtain ⟨⟨m1, m2, m3, m4⟩, -, m5⟩ := M.2.1 t ht
  have lp : ∀ r at' fuel (g0 : XH) nn, r ≤ sg 7 t → r < fuel → FRM mP h g0 → (∀ l, l < r → sg 9 (128 * t + l) + bO (sg 8 (128 * t + l)) ≤ at') → (∀ l, r ≤ l → l < sg 7 t → at' ≤ sg 9 (128 * t + l)) → at' ≤ sg 2 t → hi g0 1262 57 = nI nn → nn + at' ≤ 4300 → ∃ g, b_m_putStruct_17 fuel (nI t) (nI b) (nI at') (nI r - 1) g0 = some ((), g) ∧ FRM mP g0 g ∧ hi g 1262 57 = nI (nn + at') ∧ (∀ i, i < nn → hi g 1299 i = hi g0 1299 i) ∧ ∀ j, j < at' → hi g 1299 (nn + (at' - 1 - j)) = nI (sB sg t (fun l => hj h 1298 (b + l)) j (sg 7 t)) := by
    intro r
    induction r with
    | zero =>
      intro at' fuel g0 nn hr' hf F q1 q2 q3 q4 q5
      obtain ⟨f, rfl, -⟩ := fuel_pos hf
      obtain ⟨g1, y1, F1, y2, y3, y4⟩ := e_m_zeros (k := at') q4 q5
      refine ⟨g1, ?_, F1, y2, y3, fun j hj' => ?_⟩
      · show s_m_putStruct_17 (b_m_putStruct_17 f) _ _ _ _ _ = _
        unfold s_m_putStruct_17
        exact o_pos (by decide) (o_bind y1 rfl)
      · rw [y4 _ (by omega) (by omega)]
        have := sB_hi (sg := sg) (t := t) (V := fun l => hj h 1298 (b + l)) (j := j) (k := 0) (sg 7 t) (fun l h1 h2 => by have := q2 l h1 (by omega); omega)
        rw [Nat.zero_add] at this
        rw [this]
        rfl
    | succ r ih =>
      intro at' fuel g0 nn hr' hf F q1 q2 q3 q4 q5
      obtain ⟨f, rfl, -⟩ := fuel_pos hf
      have lf := w.2.2.1 r (by omega)
      have bb := bO_le (sg 8 (128 * t + r))
      have qr := q1 r (by omega)
      obtain ⟨v1, v2⟩ := m5 r (by omega)
      obtain ⟨P, hP⟩ : ∃ P, P = sg 9 (128 * t + r) := ⟨_, rfl⟩
      obtain ⟨B, hB⟩ : ∃ B, B = bO (sg 8 (128 * t + r)) := ⟨_, rfl⟩
      have eB : f_m_bytesOf (nI (sg 8 (128 * t + r))) g0 = some (nI B, g0) := by rw [hB]; exact e_m_bytesOf lf.1
      rw [← hP, ← hB] at qr
      rw [← hB] at bb
      rw [← hP] at v2
      obtain ⟨g1, y1, F1, y2, y3, y4⟩ := e_m_zeros (k := at' - P - B) q4 (by omega)
      obtain ⟨g2, x1, F2, x2, x3, x4⟩ := e_m_aheadk (v := hj h 1298 (b + r)) (k := B) y2 (by omega) (by omega)
      have en : nn + (at' - P - B) + B = nn + (at' - P) := by omega
      rw [en] at x2
      obtain ⟨g3, z1, F3, z2, z3, z4⟩ := ih P f g2 (nn + (at' - P)) (by omega) (by omega) ((F.trans F1).trans F2) (fun l hl => by rw [hP]; exact W.sort2 ht hl (by omega)) (fun l h1 h2 => by
        by_cases c : l = r
        · rw [hP, c]
          exact Nat.le_refl _
        · have := W.sort2 ht (show r < l by omega) h2
          omega) (by omega) x2 (by omega)
      have eB1 : f_m_bytesOf (nI (sg 8 (128 * t + r))) g1 = some (nI B, g1) := by rw [hB]; exact e_m_bytesOf lf.1
      refine ⟨g3, ?_, (F1.trans F2).trans F3, ?_, ?_, ?_⟩
      · show s_m_putStruct_17 (b_m_putStruct_17 f) _ _ _ _ _ = _
        unfold s_m_putStruct_17
        rw [nI_pred, n_128, pk_mul, nI_add, nI_clamp (show 128 * t + r < 2 ^ 31 by omega), F.at (by unfold mP; omega), F.at (by unfold mP; omega), v1, v2]
        refine o_neg (by (first | (simp (maxSteps := 4000000) (disch := omega) only [n_0, n_1, n_2, n_3, n_4, n_5, n_6, n_7, n_8, n_9, n_10, n_11, n_12, n_13, n_14, n_15, n_16, n_18, n_20, n_24, n_31, n_32, n_34, n_40, n_41, n_44, n_45, n_47, n_48, n_57, n_58, n_59, n_61, n_63, n_64, n_65, n_68, n_90, n_91, n_93, n_95, n_97, n_100, n_122, n_123, n_125, n_128, n_144, n_200, n_255, n_256, n_300, n_400, n_600, n_1536, n_3980, n_4000, n_4001, n_4300, n_65536, l_0, l_1, l_2, l_3, l_4, l_10, l_48, l_63, l_255, l_300, nI_ltI, nI_leI, nI_eq, nI_clamp, nI_add, pk_sub, pk_mul, nI_ne1, ne1_nI, nI_pge, nI_nlt0, nI_l, lN_i, lN_add, lN_mul, lN_sub, pk_lLT, pk_lLE, pk_lEQ, lg_lt, lg_ge, lg_eq0, lg_le, lg_gt, lg_ltn, lg_gen, lg_eq0n, lg_len, lg_gtn, Nat.zero_le, Nat.not_lt_zero, not_false_eq_true, not_true_eq_false, true_and, and_true]; done) | (simp (maxSteps := 4000000) (disch := omega) only [n_0, n_1, n_2, n_3, n_4, n_5, n_6, n_7, n_8, n_9, n_10, n_11, n_12, n_13, n_14, n_15, n_16, n_18, n_20, n_24, n_31, n_32, n_34, n_40, n_41, n_44, n_45, n_47, n_48, n_57, n_58, n_59, n_61, n_63, n_64, n_65, n_68, n_90, n_91, n_93, n_95, n_97, n_100, n_122, n_123, n_125, n_128, n_144, n_200, n_255, n_256, n_300, n_400, n_600, n_1536, n_3980, n_4000, n_4001, n_4300, n_65536, l_0, l_1, l_2, l_3, l_4, l_10, l_48, l_63, l_255, l_300, nI_ltI, nI_leI, nI_eq, nI_clamp, nI_add, pk_sub, pk_mul, nI_ne1, ne1_nI, nI_pge, nI_nlt0, nI_l, lN_i, lN_add, lN_mul, lN_sub, pk_lLT, pk_lLE, pk_lEQ, lg_lt, lg_ge, lg_eq0, lg_le, lg_gt, lg_ltn, lg_gen, lg_eq0n, lg_len, lg_gtn, Nat.zero_le, Nat.not_lt_zero, not_false_eq_true, not_true_eq_false, true_and, and_true]; omega) | omega)) (o_pos (by (first | (simp (maxSteps := 4000000) (disch := omega) only [n_0, n_1, n_2, n_3, n_4, n_5, n_6, n_7, n_8, n_9, n_10, n_11, n_12, n_13, n_14, n_15, n_16, n_18, n_20, n_24, n_31, n_32, n_34, n_40, n_41, n_44, n_45, n_47, n_48, n_57, n_58, n_59, n_61, n_63, n_64, n_65, n_68, n_90, n_91, n_93, n_95, n_97, n_100, n_122, n_123, n_125, n_128, n_144, n_200, n_255, n_256, n_300, n_400, n_600, n_1536, n_3980, n_4000, n_4001, n_4300, n_65536, l_0, l_1, l_2, l_3, l_4, l_10, l_48, l_63, l_255, l_300, nI_ltI, nI_leI, nI_eq, nI_clamp, nI_add, pk_sub, pk_mul, nI_ne1, ne1_nI, nI_pge, nI_nlt0, nI_l, lN_i, lN_add, lN_mul, lN_sub, pk_lLT, pk_lLE, pk_lEQ, lg_lt, lg_ge, lg_eq0, lg_le, lg_gt, lg_ltn, lg_gen, lg_eq0n, lg_len, lg_gtn, Nat.zero_le, Nat.not_lt_zero, not_false_eq_true, not_true_eq_false, true_and, and_true]; done) | (simp (maxSteps := 4000000) (disch := omega) only [n_0, n_1, n_2, n_3, n_4, n_5, n_6, n_7, n_8, n_9, n_10, n_11, n_12, n_13, n_14, n_15, n_16, n_18, n_20, n_24, n_31, n_32, n_34, n_40, n_41, n_44, n_45, n_47, n_48, n_57, n_58, n_59, n_61, n_63, n_64, n_65, n_68, n_90, n_91, n_93, n_95, n_97, n_100, n_122, n_123, n_125, n_128, n_144, n_200, n_255, n_256, n_300, n_400, n_600, n_1536, n_3980, n_4000, n_4001, n_4300, n_65536, l_0, l_1, l_2, l_3, l_4, l_10, l_48, l_63, l_255, l_300, nI_ltI, nI_leI, nI_eq, nI_clamp, nI_add, pk_sub, pk_mul, nI_ne1, ne1_nI, nI_pge, nI_nlt0, nI_l, lN_i, lN_add, lN_mul, lN_sub, pk_lLT, pk_lLE, pk_lEQ, lg_lt, lg_ge, lg_eq0, lg_le, lg_gt, lg_ltn, lg_gen, lg_eq0n, lg_len, lg_gtn, Nat.zero_le, Nat.not_lt_zero, not_false_eq_true, not_true_eq_false, true_and, and_true]; omega) | omega)) (o_bind eB ?_))
        dsimp only
        rw [pk_sub (by omega), pk_sub (by omega)]
        refine o_bind y1 ?_
        dsimp only
        rw [nI_add, nI_clamp (show b + r < 2 ^ 31 by omega)]
        refine o_pos (by (first | (simp (maxSteps := 4000000) (disch := omega) only [n_0, n_1, n_2, n_3, n_4, n_5, n_6, n_7, n_8, n_9, n_10, n_11, n_12, n_13, n_14, n_15, n_16, n_18, n_20, n_24, n_31, n_32, n_34, n_40, n_41, n_44, n_45, n_47, n_48, n_57, n_58, n_59, n_61, n_63, n_64, n_65, n_68, n_90, n_91, n_93, n_95, n_97, n_100, n_122, n_123, n_125, n_128, n_144, n_200, n_255, n_256, n_300, n_400, n_600, n_1536, n_3980, n_4000, n_4001, n_4300, n_65536, l_0, l_1, l_2, l_3, l_4, l_10, l_48, l_63, l_255, l_300, nI_ltI, nI_leI, nI_eq, nI_clamp, nI_add, pk_sub, pk_mul, nI_ne1, ne1_nI, nI_pge, nI_nlt0, nI_l, lN_i, lN_add, lN_mul, lN_sub, pk_lLT, pk_lLE, pk_lEQ, lg_lt, lg_ge, lg_eq0, lg_le, lg_gt, lg_ltn, lg_gen, lg_eq0n, lg_len, lg_gtn, Nat.zero_le, Nat.not_lt_zero, not_false_eq_true, not_true_eq_false, true_and, and_true]; done) | (simp (maxSteps := 4000000) (disch := omega) only [n_0, n_1, n_2, n_3, n_4, n_5, n_6, n_7, n_8, n_9, n_10, n_11, n_12, n_13, n_14, n_15, n_16, n_18, n_20, n_24, n_31, n_32, n_34, n_40, n_41, n_44, n_45, n_47, n_48, n_57, n_58, n_59, n_61, n_63, n_64, n_65, n_68, n_90, n_91, n_93, n_95, n_97, n_100, n_122, n_123, n_125, n_128, n_144, n_200, n_255, n_256, n_300, n_400, n_600, n_1536, n_3980, n_4000, n_4001, n_4300, n_65536, l_0, l_1, l_2, l_3, l_4, l_10, l_48, l_63, l_255, l_300, nI_ltI, nI_leI, nI_eq, nI_clamp, nI_add, pk_sub, pk_mul, nI_ne1, ne1_nI, nI_pge, nI_nlt0, nI_l, lN_i, lN_add, lN_mul, lN_sub, pk_lLT, pk_lLE, pk_lEQ, lg_lt, lg_ge, lg_eq0, lg_le, lg_gt, lg_ltn, lg_gen, lg_eq0n, lg_len, lg_gtn, Nat.zero_le, Nat.not_lt_zero, not_false_eq_true, not_true_eq_false, true_and, and_true]; omega) | omega)) (o_bind eB1 ?_)
        dsimp only
        rw [F1.hj (by decide), F.hj (by decide), i_m1]
        exact o_bind x1 z1
      · rw [z2]
        congr 1
        omega
      · intro i hi'
        rw [z3 i (by omega), x3 i (by omega), y3 i hi']
      · intro j hj'
        by_cases c1 : j < P
        · have := z4 j c1
          rw [show nn + (at' - P) + (P - 1 - j) = nn + (at' - 1 - j) by omega] at this
          exact this
        · rw [z3 _ (by omega)]
          have e7 : sB sg t (fun l => hj h 1298 (b + l)) j (sg 7 t) = sB sg t (fun l => hj h 1298 (b + l)) j (r + 1) := by
            have := sB_hi (sg := sg) (t := t) (V := fun l => hj h 1298 (b + l)) (j := j) (k := r + 1) (sg 7 t - (r + 1)) (fun l h1 h2 => by have := q2 l h1 (by omega); omega)
            rw [show r + 1 + (sg 7 t - (r + 1)) = sg 7 t by omega] at this
            exact this
          rw [e7, sB, ← hP, ← hB]
          by_cases c2 : j < P + B
          · rw [if_pos (by omega)]
            have := x4 (B - 1 - (j - P)) (by omega)
            rw [show nn + (at' - P - B) + (B - 1 - (j - P)) = nn + (at' - 1 - j) by omega, show B - 1 - (B - 1 - (j - P)) = j - P by omega] at this
            exact this
          · rw [if_neg (by omega), x3 _ (by omega), y4 _ (by omega) (by omega), sB_lo r (fun l hl => by have := W.sort2 ht hl (show r < sg 7 t by omega); omega)]
            rfl
  obtain ⟨g, z1, z2⟩ := lp (sg 7 t) (sg 2 t) 100000 h n (Nat.le_refl _) (by omega) FRM.refl (fun l hl => (w.2.2.1 l hl).2) (fun l h1 h2 => by omega) (Nat.le_refl _) e hn'
  refine ⟨g, ?_, z2⟩
  unfold f_m_putStruct
  rw [nI_clamp (show t < 2 ^ 31 by omega), m2, m4]
  exact o_pos (by (first | (simp (maxSteps := 4000000) (disch := omega) only [n_0, n_1, n_2, n_3, n_4, n_5, n_6, n_7, n_8, n_9, n_10, n_11, n_12, n_13, n_14, n_15, n_16, n_18, n_20, n_24, n_31, n_32, n_34, n_40, n_41, n_44, n_45, n_47, n_48, n_57, n_58, n_59, n_61, n_63, n_64, n_65, n_68, n_90, n_91, n_93, n_95, n_97, n_100, n_122, n_123, n_125, n_128, n_144, n_200, n_255, n_256, n_300, n_400, n_600, n_1536, n_3980, n_4000, n_4001, n_4300, n_65536, l_0, l_1, l_2, l_3, l_4, l_10, l_48, l_63, l_255, l_300, nI_ltI, nI_leI, nI_eq, nI_clamp, nI_add, pk_sub, pk_mul, nI_ne1, ne1_nI, nI_pge, nI_nlt0, nI_l, lN_i, lN_add, lN_mul, lN_sub, pk_lLT, pk_lLE, pk_lEQ, lg_lt, lg_ge, lg_eq0, lg_le, lg_gt, lg_ltn, lg_gen, lg_eq0n, lg_len, lg_gtn, Nat.zero_le, Nat.not_lt_zero, not_false_eq_true, not_true_eq_false, true_and, and_true]; done) | (simp (maxSteps := 4000000) (disch := omega) only [n_0, n_1, n_2, n_3, n_4, n_5, n_6, n_7, n_8, n_9, n_10, n_11, n_12, n_13, n_14, n_15, n_16, n_18, n_20, n_24, n_31, n_32, n_34, n_40, n_41, n_44, n_45, n_47, n_48, n_57, n_58, n_59, n_61, n_63, n_64, n_65, n_68, n_90, n_91, n_93, n_95, n_97, n_100, n_122, n_123, n_125, n_128, n_144, n_200, n_255, n_256, n_300, n_400, n_600, n_1536, n_3980, n_4000, n_4001, n_4300, n_65536, l_0, l_1, l_2, l_3, l_4, l_10, l_48, l_63, l_255, l_300, nI_ltI, nI_leI, nI_eq, nI_clamp, nI_add, pk_sub, pk_mul, nI_ne1, ne1_nI, nI_pge, nI_nlt0, nI_l, lN_i, lN_add, lN_mul, lN_sub, pk_lLT, pk_lLE, pk_lEQ, lg_lt, lg_ge, lg_eq0, lg_le, lg_gt, lg_ltn, lg_gen, lg_eq0n, lg_len, lg_gtn, Nat.zero_le, Nat.not_lt_zero, not_false_eq_true, not_true_eq_false, true_and, and_true]; omega) | omega)) z1
/-! what the class puts of an element -/
theorem e_u_content0 {p o i : Nat} (L : LY h) (ho : o < 11) (hi' : i < 600) (hp : p + bO o ≤ 4000) : ∃ g, f_u_putContent S (nI p) (nI 0) (nI o) 5 (nI i) h = some ((), g) ∧ FRM (fun a _ => a = 1246) h g ∧ (∀ j, j < bO o → cb g 1246 (p + j) = v8 (hj h 6 i) j) ∧ ∀ m, m < p ∨ p + bO o ≤ m → hi g 1246 m = hi h 1246 m := by
  have bb := bO_le o
  obtain ⟨g, z1, z2⟩ := e_u_put (v := hj h 6 i) L.b1245 (show bO o ≤ 8 by omega) hp
  refine ⟨g, ?_, z2⟩
  unfold f_u_putContent
  exact o_neg (not_not_intro rfl) (o_bind (e_t_scalarBytes ho) (o_pos ⟨L.lt (by decide), L.k5⟩ (o_bind (e_w_at L hi') (o_bind z1 rfl))))
theorem e_u_content2 {p i : Nat} (L : LY h) (C : CS h S sg sd) (W : WF sg sd) (hS : S + 616 ≤ 1244) (ht : t < sg 0 0) (hi' : i * sg 7 t + sg 7 t ≤ 600) (hp : p + sg 2 t ≤ 4000) (z : ∀ j, j < sg 2 t → cb h 1246 (p + j) = 0) : ∃ g, f_u_putContent S (nI p) (nI 2) (nI t) 5 (nI i) h = some ((), g) ∧ FRM (fun a _ => a = 1246) h g ∧ (∀ j, j < sg 2 t → cb g 1246 (p + j) = sB sg t (fun l => hj h 6 (i * sg 7 t + l)) j (sg 7 t)) ∧ ∀ m, m < p ∨ p + sg 2 t ≤ m → hi g 1246 m = hi h 1246 m := by
  obtain ⟨g, z1, z2⟩ := e_u_struct L C W hS ht hi' hp z
  refine ⟨g, ?_, z2⟩
  have sc := C.1
  have s1 : S < hz h := by have := sc.1; omega
  have us1 : S + 1 < hz h := by have := sc.1; omega
  unfold f_u_putContent
  exact o_pos (show ¬ nI 2 = 0 by decide) (o_neg (not_not_intro rfl) (o_pos ⟨s1, sc.2.2.1⟩ (o_bind sc.2.2.2.1 (o_pos ⟨us1, sc.gS.2.2.2.1⟩ (o_bind (C.atS W ht) (o_bind rfl (o_bind z1 rfl)))))))
theorem e_u_contentR {s so i tt st : Nat} {y : Int32} (L : LY h) (hso : so = 1 ∨ so = 3 ∨ so = 4 ∨ so = 5) (hi' : i < 600) (ev : hj h 6 i = lN tt) (e : hi h 1250 tt = nI st) (ht : tt < 300) (hs : st ≤ s) (h4 : 4 ≤ s ∧ s ≤ 4000) : ∃ g, f_u_putContent S (nI (4000 - s)) (nI so) y 5 (nI i) h = some ((), g) ∧ FRM (fun a _ => a = 1246) h g ∧ (∀ j, j < 4 → cb g 1246 (4000 - s + j) = v8 (lN (s - st)) j) ∧ ∀ m, m < 4000 - s ∨ 4000 - s + 4 ≤ m → hi g 1246 m = hi h 1246 m := by
  obtain ⟨g, z1, z2⟩ := e_u_ref L.b1245 e ht hs h4
  refine ⟨g, ?_, z2⟩
  unfold f_u_putContent
  refine o_pos (show ¬ nI so = nI 0 by (first | (simp (maxSteps := 4000000) (disch := omega) only [n_0, n_1, n_2, n_3, n_4, n_5, n_6, n_7, n_8, n_9, n_10, n_11, n_12, n_13, n_14, n_15, n_16, n_18, n_20, n_24, n_31, n_32, n_34, n_40, n_41, n_44, n_45, n_47, n_48, n_57, n_58, n_59, n_61, n_63, n_64, n_65, n_68, n_90, n_91, n_93, n_95, n_97, n_100, n_122, n_123, n_125, n_128, n_144, n_200, n_255, n_256, n_300, n_400, n_600, n_1536, n_3980, n_4000, n_4001, n_4300, n_65536, l_0, l_1, l_2, l_3, l_4, l_10, l_48, l_63, l_255, l_300, nI_ltI, nI_leI, nI_eq, nI_clamp, nI_add, pk_sub, pk_mul, nI_ne1, ne1_nI, nI_pge, nI_nlt0, nI_l, lN_i, lN_add, lN_mul, lN_sub, pk_lLT, pk_lLE, pk_lEQ, lg_lt, lg_ge, lg_eq0, lg_le, lg_gt, lg_ltn, lg_gen, lg_eq0n, lg_len, lg_gtn, Nat.zero_le, Nat.not_lt_zero, not_false_eq_true, not_true_eq_false, true_and, and_true]; done) | (simp (maxSteps := 4000000) (disch := omega) only [n_0, n_1, n_2, n_3, n_4, n_5, n_6, n_7, n_8, n_9, n_10, n_11, n_12, n_13, n_14, n_15, n_16, n_18, n_20, n_24, n_31, n_32, n_34, n_40, n_41, n_44, n_45, n_47, n_48, n_57, n_58, n_59, n_61, n_63, n_64, n_65, n_68, n_90, n_91, n_93, n_95, n_97, n_100, n_122, n_123, n_125, n_128, n_144, n_200, n_255, n_256, n_300, n_400, n_600, n_1536, n_3980, n_4000, n_4001, n_4300, n_65536, l_0, l_1, l_2, l_3, l_4, l_10, l_48, l_63, l_255, l_300, nI_ltI, nI_leI, nI_eq, nI_clamp, nI_add, pk_sub, pk_mul, nI_ne1, ne1_nI, nI_pge, nI_nlt0, nI_l, lN_i, lN_add, lN_mul, lN_sub, pk_lLT, pk_lLE, pk_lEQ, lg_lt, lg_ge, lg_eq0, lg_le, lg_gt, lg_ltn, lg_gen, lg_eq0n, lg_len, lg_gtn, Nat.zero_le, Nat.not_lt_zero, not_false_eq_true, not_true_eq_false, true_and, and_true]; omega) | omega)) (o_pos (show ¬ nI so = nI 2 by (first | (simp (maxSteps := 4000000) (disch := omega) only [n_0, n_1, n_2, n_3, n_4, n_5, n_6, n_7, n_8, n_9, n_10, n_11, n_12, n_13, n_14, n_15, n_16, n_18, n_20, n_24, n_31, n_32, n_34, n_40, n_41, n_44, n_45, n_47, n_48, n_57, n_58, n_59, n_61, n_63, n_64, n_65, n_68, n_90, n_91, n_93, n_95, n_97, n_100, n_122, n_123, n_125, n_128, n_144, n_200, n_255, n_256, n_300, n_400, n_600, n_1536, n_3980, n_4000, n_4001, n_4300, n_65536, l_0, l_1, l_2, l_3, l_4, l_10, l_48, l_63, l_255, l_300, nI_ltI, nI_leI, nI_eq, nI_clamp, nI_add, pk_sub, pk_mul, nI_ne1, ne1_nI, nI_pge, nI_nlt0, nI_l, lN_i, lN_add, lN_mul, lN_sub, pk_lLT, pk_lLE, pk_lEQ, lg_lt, lg_ge, lg_eq0, lg_le, lg_gt, lg_ltn, lg_gen, lg_eq0n, lg_len, lg_gtn, Nat.zero_le, Nat.not_lt_zero, not_false_eq_true, not_true_eq_false, true_and, and_true]; done) | (simp (maxSteps := 4000000) (disch := omega) only [n_0, n_1, n_2, n_3, n_4, n_5, n_6, n_7, n_8, n_9, n_10, n_11, n_12, n_13, n_14, n_15, n_16, n_18, n_20, n_24, n_31, n_32, n_34, n_40, n_41, n_44, n_45, n_47, n_48, n_57, n_58, n_59, n_61, n_63, n_64, n_65, n_68, n_90, n_91, n_93, n_95, n_97, n_100, n_122, n_123, n_125, n_128, n_144, n_200, n_255, n_256, n_300, n_400, n_600, n_1536, n_3980, n_4000, n_4001, n_4300, n_65536, l_0, l_1, l_2, l_3, l_4, l_10, l_48, l_63, l_255, l_300, nI_ltI, nI_leI, nI_eq, nI_clamp, nI_add, pk_sub, pk_mul, nI_ne1, ne1_nI, nI_pge, nI_nlt0, nI_l, lN_i, lN_add, lN_mul, lN_sub, pk_lLT, pk_lLE, pk_lEQ, lg_lt, lg_ge, lg_eq0, lg_le, lg_gt, lg_ltn, lg_gen, lg_eq0n, lg_len, lg_gtn, Nat.zero_le, Nat.not_lt_zero, not_false_eq_true, not_true_eq_false, true_and, and_true]; omega) | omega)) (o_pos ⟨L.lt (by decide), L.k5⟩ (o_bind (e_w_at L hi') ?_)))
  dsimp only
  rw [ev]
  exact o_bind z1 rfl
end Cont
