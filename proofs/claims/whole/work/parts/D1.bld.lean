/-! The builder: frames, the row grows, bytes are put -/

/-- g is h but for the ints at P, and the law's long -/
def FRM (P : Nat → Nat → Prop) (h g : XH) : Prop := (hz g = hz h ∧ hw g = hw h ∧ hk g = hk h ∧ hn g = hn h ∧ hr g = hr h) ∧ (∀ a, a ≠ 1316 → hj g a = hj h a) ∧ ∀ a k, ¬ P a k → hi g a k = hi h a k
section Frm
variable {P Q : Nat → Nat → Prop} {h g e : XH}
theorem FRM.refl : FRM P h h := ⟨⟨rfl, rfl, rfl, rfl, rfl⟩, fun _ _ => rfl, fun _ _ _ => rfl⟩
theorem FRM.trans (A : FRM P h g) (B : FRM P g e) : FRM P h e := by
  obtain ⟨⟨a1, a2, a3, a4, a5⟩, a6, a7⟩ := A
  obtain ⟨⟨b1, b2, b3, b4, b5⟩, b6, b7⟩ := B
  exact ⟨⟨b1.trans a1, b2.trans a2, b3.trans a3, b4.trans a4, b5.trans a5⟩, fun a ha => (b6 a ha).trans (a6 a ha), fun a k ha => (b7 a k ha).trans (a7 a k ha)⟩
theorem FRM.mono (A : FRM P h g) (w : ∀ a k, P a k → Q a k) : FRM Q h g := ⟨A.1, A.2.1, fun a k ha => A.2.2 a k fun z => ha (w a k z)⟩
theorem FRM.si {a0 k0 : Nat} {v : Int32} (A : FRM P h g) (w : P a0 k0) : FRM P h (hsi g a0 k0 v) := by
  refine ⟨A.1, A.2.1, fun a k ha => ?_⟩
  rw [hi_hsi, if_neg (fun z => ha (by rw [z.1, z.2]; exact w))]
  exact A.2.2 a k ha
theorem FRM.ri {a0 : Nat} {f : Nat → Int32} (A : FRM P h g) (w : ∀ k, P a0 k) : FRM P h (hri g a0 f) := by
  refine ⟨A.1, A.2.1, fun a k ha => ?_⟩
  rw [hi_hri_ne (fun z => ha (by rw [z]; exact w k))]
  exact A.2.2 a k ha
theorem FRM.ow (A : FRM P h g) (W : OW g e) : FRM P h e := by
  rcases W with q | ⟨w, q⟩ <;> subst q
  · exact A
  · exact ⟨A.1, fun a ha => by rw [hj_hsj_ne ha]; exact A.2.1 a ha, A.2.2⟩
theorem FRM.row (A : FRM P h g) {a : Nat} (w : ∀ k, ¬ P a k) : hi g a = hi h a := funext fun k => A.2.2 a k (w k)
theorem FRM.at (A : FRM P h g) {a k : Nat} (w : ¬ P a k) : hi g a k = hi h a k := A.2.2 a k w
theorem FRM.hj (A : FRM P h g) {a : Nat} (w : a ≠ 1316) : hj g a = hj h a := A.2.1 a w
theorem FRM.ly (A : FRM P h g) : LY g = LY h := by
  obtain ⟨⟨a1, a2, a3, a4, a5⟩, -⟩ := A
  unfold LY SC GR DF
  rw [a1, a3, a4, a5]
theorem FRM.sc (A : FRM P h g) {S : Nat} : SC g S = SC h S := by
  obtain ⟨⟨a1, a2, a3, a4, a5⟩, -⟩ := A
  unfold SC GR DF
  rw [a1, a3, a4, a5]
theorem FRM.by (A : FRM P h g) {b c : Nat} : BY g b c = BY h b c := by
  obtain ⟨⟨a1, a2, a3, a4, a5⟩, -⟩ := A
  unfold BY
  rw [a1, a3, a4, a5]
theorem FRM.cbq (A : FRM P h g) {a k : Nat} (w : ¬ P a k) : cb g a k = cb h a k := by unfold cb; rw [A.2.2 a k w]
end Frm
/-- x brought up to a multiple of a -/
def rU (x a : Nat) : Nat := (x + a - 1) / a * a
theorem rU_f {x a : Nat} (ha : a = 1 ∨ a = 2 ∨ a = 4 ∨ a = 8) : x ≤ rU x a ∧ rU x a < x + a ∧ rU x a % a = 0 := by
  unfold rU
  rcases ha with q | q | q | q <;> subst q <;> omega
theorem and_hi {y k : Nat} {m : Int32} (hy : y < 2 ^ 31) (hm : ∀ i, i < 32 → m.toBitVec.toNat.testBit i = decide (k ≤ i)) : nI y &&& m = nI (y / 2 ^ k * 2 ^ k) := by
  have hd : y / 2 ^ k * 2 ^ k ≤ y := Nat.div_mul_le_self y _
  apply Int32.toBitVec_inj.mp
  apply BitVec.eq_of_toNat_eq
  rw [Int32.toBitVec_and, BitVec.toNat_and, pk_tn (by omega), pk_tn (by omega)]
  apply Nat.eq_of_testBit_eq
  intro i
  rw [Nat.testBit_and, Nat.testBit_mul_two_pow, Nat.testBit_div_two_pow]
  by_cases c32 : i < 32
  · rw [hm i c32]
    by_cases c : k ≤ i
    · rw [Nat.sub_add_cancel c, decide_eq_true c, Bool.and_true, Bool.true_and]
    · rw [decide_eq_false c, Bool.and_false, Bool.false_and]
  · have e : y.testBit i = false := Nat.testBit_lt_two_pow (Nat.lt_of_lt_of_le hy (Nat.pow_le_pow_right (by decide) (by omega)))
    rw [e, Bool.false_and]
    by_cases c : k ≤ i
    · rw [Nat.sub_add_cancel c, e, Bool.and_false]
    · rw [decide_eq_false c, Bool.false_and]
theorem e_t_roundUp {h : XH} {x a : Nat} (hx : x < 1000000) (ha : a = 1 ∨ a = 2 ∨ a = 4 ∨ a = 8) : f_t_roundUp (nI x) (nI a) h = some (nI (rU x a), h) := by
  have e0 : nI x + nI a - 1 = nI (x + a - 1) := by rw [nI_add, n_1, pk_sub (by omega)]
  unfold f_t_roundUp
  rw [e0]
  unfold rU
  rcases ha with q | q | q | q <;> subst q
  · rw [and_hi (k := 0) (by omega) (by decide)]
  · rw [and_hi (k := 1) (by omega) (by decide)]
  · rw [and_hi (k := 2) (by omega) (by decide)]
  · rw [and_hi (k := 3) (by omega) (by decide)]
theorem e_m_fill {h : XH} {n k a : Nat} (hx : n + k < 1000000) (ha : a = 1 ∨ a = 2 ∨ a = 4 ∨ a = 8) : f_m_fill (nI n) (nI k) (nI a) h = some (nI (rU (n + k) a - (n + k)), h) := by
  obtain ⟨r1, r2, r3⟩ := rU_f (x := n + k) ha
  have a1 : 0 < a ∧ a ≤ 8 := by omega
  have no : ∀ z, z < rU (n + k) a - (n + k) → ¬ (n + z + k) % a = 0 := by
    intro z hz'
    rcases ha with q | q | q | q <;> subst q <;> omega
  have lp : ∀ r z fuel, z + r = rU (n + k) a - (n + k) → r < fuel → b_m_fill_3 fuel (nI n) (nI k) (nI a) (nI z) h = some (nI (rU (n + k) a - (n + k)), h) := by
    intro r
    induction r with
    | zero =>
      intro z fuel e hf
      obtain ⟨f, rfl, -⟩ := fuel_pos hf
      show s_m_fill_3 (b_m_fill_3 f) _ _ _ _ _ = _
      unfold s_m_fill_3
      have e1 : z = rU (n + k) a - (n + k) := by omega
      refine o_pos (show ¬ nI a = 0 by (first | (simp (maxSteps := 4000000) (disch := omega) only [n_0, n_1, n_2, n_3, n_4, n_5, n_6, n_7, n_8, n_9, n_10, n_11, n_12, n_13, n_14, n_15, n_16, n_18, n_20, n_24, n_31, n_32, n_34, n_40, n_41, n_44, n_45, n_47, n_48, n_57, n_58, n_59, n_61, n_63, n_64, n_65, n_68, n_90, n_91, n_93, n_95, n_97, n_100, n_122, n_123, n_125, n_128, n_144, n_200, n_255, n_256, n_300, n_400, n_600, n_1536, n_3980, n_4000, n_4001, n_4300, n_65536, l_0, l_1, l_2, l_3, l_4, l_10, l_48, l_63, l_255, l_300, nI_ltI, nI_leI, nI_eq, nI_clamp, nI_add, pk_sub, pk_mul, nI_ne1, ne1_nI, nI_pge, nI_nlt0, nI_l, lN_i, lN_add, lN_mul, lN_sub, pk_lLT, pk_lLE, pk_lEQ, lg_lt, lg_ge, lg_eq0, lg_le, lg_gt, lg_ltn, lg_gen, lg_eq0n, lg_len, lg_gtn, Nat.zero_le, Nat.not_lt_zero, not_false_eq_true, not_true_eq_false, true_and, and_true]; done) | (simp (maxSteps := 4000000) (disch := omega) only [n_0, n_1, n_2, n_3, n_4, n_5, n_6, n_7, n_8, n_9, n_10, n_11, n_12, n_13, n_14, n_15, n_16, n_18, n_20, n_24, n_31, n_32, n_34, n_40, n_41, n_44, n_45, n_47, n_48, n_57, n_58, n_59, n_61, n_63, n_64, n_65, n_68, n_90, n_91, n_93, n_95, n_97, n_100, n_122, n_123, n_125, n_128, n_144, n_200, n_255, n_256, n_300, n_400, n_600, n_1536, n_3980, n_4000, n_4001, n_4300, n_65536, l_0, l_1, l_2, l_3, l_4, l_10, l_48, l_63, l_255, l_300, nI_ltI, nI_leI, nI_eq, nI_clamp, nI_add, pk_sub, pk_mul, nI_ne1, ne1_nI, nI_pge, nI_nlt0, nI_l, lN_i, lN_add, lN_mul, lN_sub, pk_lLT, pk_lLE, pk_lEQ, lg_lt, lg_ge, lg_eq0, lg_le, lg_gt, lg_ltn, lg_gen, lg_eq0n, lg_len, lg_gtn, Nat.zero_le, Nat.not_lt_zero, not_false_eq_true, not_true_eq_false, true_and, and_true]; omega) | omega)) (o_pos ?_ (by rw [e1]))
      rw [nI_add, nI_add, pk_rem (by omega) a1.1 (by omega)]
      rw [show n + z + k = rU (n + k) a by omega, r3]
      rfl
    | succ r ih =>
      intro z fuel e hf
      obtain ⟨f, rfl, -⟩ := fuel_pos hf
      show s_m_fill_3 (b_m_fill_3 f) _ _ _ _ _ = _
      unfold s_m_fill_3
      have n0 := no z (by omega)
      have l0 : (n + z + k) % a < a := Nat.mod_lt _ a1.1
      refine o_pos (show ¬ nI a = 0 by (first | (simp (maxSteps := 4000000) (disch := omega) only [n_0, n_1, n_2, n_3, n_4, n_5, n_6, n_7, n_8, n_9, n_10, n_11, n_12, n_13, n_14, n_15, n_16, n_18, n_20, n_24, n_31, n_32, n_34, n_40, n_41, n_44, n_45, n_47, n_48, n_57, n_58, n_59, n_61, n_63, n_64, n_65, n_68, n_90, n_91, n_93, n_95, n_97, n_100, n_122, n_123, n_125, n_128, n_144, n_200, n_255, n_256, n_300, n_400, n_600, n_1536, n_3980, n_4000, n_4001, n_4300, n_65536, l_0, l_1, l_2, l_3, l_4, l_10, l_48, l_63, l_255, l_300, nI_ltI, nI_leI, nI_eq, nI_clamp, nI_add, pk_sub, pk_mul, nI_ne1, ne1_nI, nI_pge, nI_nlt0, nI_l, lN_i, lN_add, lN_mul, lN_sub, pk_lLT, pk_lLE, pk_lEQ, lg_lt, lg_ge, lg_eq0, lg_le, lg_gt, lg_ltn, lg_gen, lg_eq0n, lg_len, lg_gtn, Nat.zero_le, Nat.not_lt_zero, not_false_eq_true, not_true_eq_false, true_and, and_true]; done) | (simp (maxSteps := 4000000) (disch := omega) only [n_0, n_1, n_2, n_3, n_4, n_5, n_6, n_7, n_8, n_9, n_10, n_11, n_12, n_13, n_14, n_15, n_16, n_18, n_20, n_24, n_31, n_32, n_34, n_40, n_41, n_44, n_45, n_47, n_48, n_57, n_58, n_59, n_61, n_63, n_64, n_65, n_68, n_90, n_91, n_93, n_95, n_97, n_100, n_122, n_123, n_125, n_128, n_144, n_200, n_255, n_256, n_300, n_400, n_600, n_1536, n_3980, n_4000, n_4001, n_4300, n_65536, l_0, l_1, l_2, l_3, l_4, l_10, l_48, l_63, l_255, l_300, nI_ltI, nI_leI, nI_eq, nI_clamp, nI_add, pk_sub, pk_mul, nI_ne1, ne1_nI, nI_pge, nI_nlt0, nI_l, lN_i, lN_add, lN_mul, lN_sub, pk_lLT, pk_lLE, pk_lEQ, lg_lt, lg_ge, lg_eq0, lg_le, lg_gt, lg_ltn, lg_gen, lg_eq0n, lg_len, lg_gtn, Nat.zero_le, Nat.not_lt_zero, not_false_eq_true, not_true_eq_false, true_and, and_true]; omega) | omega)) (o_neg ?_ ?_)
      · rw [nI_add, nI_add, pk_rem (by omega) a1.1 (by omega)]
        show ¬ nI ((n + z + k) % a) = nI 0
        rw [nI_eq (by omega) (by omega)]
        exact n0
      · rw [n_1, nI_add]
        exact ih (z + 1) f (by omega) (by omega)
  exact lp _ 0 100000 (Nat.zero_add _) (by omega)
/-! the class's row -/
/-- what the class's growing and putting writes -/
def uP (a k : Nat) : Prop := a = 1246 ∨ (a = 1244 ∧ (k = 1 ∨ k = 2))
section Grow
variable {h g : XH} {n ga a b : Nat}
theorem e_u_grow (B : BY h 1245 1246) (e1 : hi h 1244 1 = nI n) (e2 : hi h 1244 2 = nI ga) (hg : ga ≤ 8) (ha : a = 1 ∨ a = 2 ∨ a = 4 ∨ a = 8) (hN : rU (n + b) a ≤ 4000) : ∃ g, f_u_grow (nI b) (nI a) h = some (nI (4000 - rU (n + b) a), g) ∧ FRM uP h g ∧ hi g 1244 1 = nI (rU (n + b) a) ∧ hi g 1244 2 = nI (max ga a) ∧ (∀ m, 4000 - rU (n + b) a ≤ m → m < 4000 - n → cb g 1246 m = 0) ∧ ∀ m, m < 4000 - rU (n + b) a ∨ 4000 - n ≤ m → hi g 1246 m = hi h 1246 m := by
  obtain ⟨r1, r2, r3⟩ := rU_f (x := n + b) ha
  obtain ⟨N, hNN⟩ : ∃ N, N = rU (n + b) a := ⟨_, rfl⟩
  rw [← hNN] at hN r1 r2 r3 ⊢
  have fin : ∀ g0 : XH, hi g0 1244 2 = nI ga → ∀ X, some (nI (4000 - N), hsi (hsi g0 1244 1 (nI N)) 1244 2 (nI (max ga a))) = X → some ((4000 : Int32) - nI N, hsi (hsi g0 1244 1 (nI N)) 1244 2 (if hi g0 1244 2 < nI a then nI a else hi g0 1244 2)) = X := by
    intro g0 q X z
    rw [← z, q, n_4000, pk_sub hN]
    have : (if nI ga < nI a then nI a else nI ga) = nI (max ga a) := by
      by_cases c : ga < a
      · rw [if_pos (by (first | (simp (maxSteps := 4000000) (disch := omega) only [n_0, n_1, n_2, n_3, n_4, n_5, n_6, n_7, n_8, n_9, n_10, n_11, n_12, n_13, n_14, n_15, n_16, n_18, n_20, n_24, n_31, n_32, n_34, n_40, n_41, n_44, n_45, n_47, n_48, n_57, n_58, n_59, n_61, n_63, n_64, n_65, n_68, n_90, n_91, n_93, n_95, n_97, n_100, n_122, n_123, n_125, n_128, n_144, n_200, n_255, n_256, n_300, n_400, n_600, n_1536, n_3980, n_4000, n_4001, n_4300, n_65536, l_0, l_1, l_2, l_3, l_4, l_10, l_48, l_63, l_255, l_300, nI_ltI, nI_leI, nI_eq, nI_clamp, nI_add, pk_sub, pk_mul, nI_ne1, ne1_nI, nI_pge, nI_nlt0, nI_l, lN_i, lN_add, lN_mul, lN_sub, pk_lLT, pk_lLE, pk_lEQ, lg_lt, lg_ge, lg_eq0, lg_le, lg_gt, lg_ltn, lg_gen, lg_eq0n, lg_len, lg_gtn, Nat.zero_le, Nat.not_lt_zero, not_false_eq_true, not_true_eq_false, true_and, and_true]; done) | (simp (maxSteps := 4000000) (disch := omega) only [n_0, n_1, n_2, n_3, n_4, n_5, n_6, n_7, n_8, n_9, n_10, n_11, n_12, n_13, n_14, n_15, n_16, n_18, n_20, n_24, n_31, n_32, n_34, n_40, n_41, n_44, n_45, n_47, n_48, n_57, n_58, n_59, n_61, n_63, n_64, n_65, n_68, n_90, n_91, n_93, n_95, n_97, n_100, n_122, n_123, n_125, n_128, n_144, n_200, n_255, n_256, n_300, n_400, n_600, n_1536, n_3980, n_4000, n_4001, n_4300, n_65536, l_0, l_1, l_2, l_3, l_4, l_10, l_48, l_63, l_255, l_300, nI_ltI, nI_leI, nI_eq, nI_clamp, nI_add, pk_sub, pk_mul, nI_ne1, ne1_nI, nI_pge, nI_nlt0, nI_l, lN_i, lN_add, lN_mul, lN_sub, pk_lLT, pk_lLE, pk_lEQ, lg_lt, lg_ge, lg_eq0, lg_le, lg_gt, lg_ltn, lg_gen, lg_eq0n, lg_len, lg_gtn, Nat.zero_le, Nat.not_lt_zero, not_false_eq_true, not_true_eq_false, true_and, and_true]; omega) | omega)), Nat.max_eq_right (by omega)]
      · rw [if_neg (by (first | (simp (maxSteps := 4000000) (disch := omega) only [n_0, n_1, n_2, n_3, n_4, n_5, n_6, n_7, n_8, n_9, n_10, n_11, n_12, n_13, n_14, n_15, n_16, n_18, n_20, n_24, n_31, n_32, n_34, n_40, n_41, n_44, n_45, n_47, n_48, n_57, n_58, n_59, n_61, n_63, n_64, n_65, n_68, n_90, n_91, n_93, n_95, n_97, n_100, n_122, n_123, n_125, n_128, n_144, n_200, n_255, n_256, n_300, n_400, n_600, n_1536, n_3980, n_4000, n_4001, n_4300, n_65536, l_0, l_1, l_2, l_3, l_4, l_10, l_48, l_63, l_255, l_300, nI_ltI, nI_leI, nI_eq, nI_clamp, nI_add, pk_sub, pk_mul, nI_ne1, ne1_nI, nI_pge, nI_nlt0, nI_l, lN_i, lN_add, lN_mul, lN_sub, pk_lLT, pk_lLE, pk_lEQ, lg_lt, lg_ge, lg_eq0, lg_le, lg_gt, lg_ltn, lg_gen, lg_eq0n, lg_len, lg_gtn, Nat.zero_le, Nat.not_lt_zero, not_false_eq_true, not_true_eq_false, true_and, and_true]; done) | (simp (maxSteps := 4000000) (disch := omega) only [n_0, n_1, n_2, n_3, n_4, n_5, n_6, n_7, n_8, n_9, n_10, n_11, n_12, n_13, n_14, n_15, n_16, n_18, n_20, n_24, n_31, n_32, n_34, n_40, n_41, n_44, n_45, n_47, n_48, n_57, n_58, n_59, n_61, n_63, n_64, n_65, n_68, n_90, n_91, n_93, n_95, n_97, n_100, n_122, n_123, n_125, n_128, n_144, n_200, n_255, n_256, n_300, n_400, n_600, n_1536, n_3980, n_4000, n_4001, n_4300, n_65536, l_0, l_1, l_2, l_3, l_4, l_10, l_48, l_63, l_255, l_300, nI_ltI, nI_leI, nI_eq, nI_clamp, nI_add, pk_sub, pk_mul, nI_ne1, ne1_nI, nI_pge, nI_nlt0, nI_l, lN_i, lN_add, lN_mul, lN_sub, pk_lLT, pk_lLE, pk_lEQ, lg_lt, lg_ge, lg_eq0, lg_le, lg_gt, lg_ltn, lg_gen, lg_eq0n, lg_len, lg_gtn, Nat.zero_le, Nat.not_lt_zero, not_false_eq_true, not_true_eq_false, true_and, and_true]; omega) | omega)), Nat.max_eq_left (by omega)]
    rw [this]
  have lp : ∀ r s fuel g0, s + r = N + 1 → n < s → r < fuel → FRM uP h g0 → hi g0 1244 2 = nI ga → (∀ m, 4000 < m + s → m < 4000 - n → cb g0 1246 m = 0) → (∀ m, m + s ≤ 4000 ∨ 4000 - n ≤ m → hi g0 1246 m = hi h 1246 m) → ∃ g, b_u_grow_19 fuel (nI a) (nI N) (nI s) g0 = some (nI (4000 - N), g) ∧ FRM uP h g ∧ hi g 1244 1 = nI N ∧ hi g 1244 2 = nI (max ga a) ∧ (∀ m, 4000 - N ≤ m → m < 4000 - n → cb g 1246 m = 0) ∧ ∀ m, m < 4000 - N ∨ 4000 - n ≤ m → hi g 1246 m = hi h 1246 m := by
    intro r
    induction r with
    | zero =>
      intro s fuel g0 e hs hf F q1 q2 q3
      obtain ⟨f, rfl, -⟩ := fuel_pos hf
      refine ⟨hsi (hsi g0 1244 1 (nI N)) 1244 2 (nI (max ga a)), ?_, (F.si (by unfold uP; omega)).si (by unfold uP; omega), ?_, hi_at, ?_, ?_⟩
      · show s_u_grow_19 (b_u_grow_19 f) _ _ _ _ = _
        unfold s_u_grow_19
        exact o_pos (by (first | (simp (maxSteps := 4000000) (disch := omega) only [n_0, n_1, n_2, n_3, n_4, n_5, n_6, n_7, n_8, n_9, n_10, n_11, n_12, n_13, n_14, n_15, n_16, n_18, n_20, n_24, n_31, n_32, n_34, n_40, n_41, n_44, n_45, n_47, n_48, n_57, n_58, n_59, n_61, n_63, n_64, n_65, n_68, n_90, n_91, n_93, n_95, n_97, n_100, n_122, n_123, n_125, n_128, n_144, n_200, n_255, n_256, n_300, n_400, n_600, n_1536, n_3980, n_4000, n_4001, n_4300, n_65536, l_0, l_1, l_2, l_3, l_4, l_10, l_48, l_63, l_255, l_300, nI_ltI, nI_leI, nI_eq, nI_clamp, nI_add, pk_sub, pk_mul, nI_ne1, ne1_nI, nI_pge, nI_nlt0, nI_l, lN_i, lN_add, lN_mul, lN_sub, pk_lLT, pk_lLE, pk_lEQ, lg_lt, lg_ge, lg_eq0, lg_le, lg_gt, lg_ltn, lg_gen, lg_eq0n, lg_len, lg_gtn, Nat.zero_le, Nat.not_lt_zero, not_false_eq_true, not_true_eq_false, true_and, and_true]; done) | (simp (maxSteps := 4000000) (disch := omega) only [n_0, n_1, n_2, n_3, n_4, n_5, n_6, n_7, n_8, n_9, n_10, n_11, n_12, n_13, n_14, n_15, n_16, n_18, n_20, n_24, n_31, n_32, n_34, n_40, n_41, n_44, n_45, n_47, n_48, n_57, n_58, n_59, n_61, n_63, n_64, n_65, n_68, n_90, n_91, n_93, n_95, n_97, n_100, n_122, n_123, n_125, n_128, n_144, n_200, n_255, n_256, n_300, n_400, n_600, n_1536, n_3980, n_4000, n_4001, n_4300, n_65536, l_0, l_1, l_2, l_3, l_4, l_10, l_48, l_63, l_255, l_300, nI_ltI, nI_leI, nI_eq, nI_clamp, nI_add, pk_sub, pk_mul, nI_ne1, ne1_nI, nI_pge, nI_nlt0, nI_l, lN_i, lN_add, lN_mul, lN_sub, pk_lLT, pk_lLE, pk_lEQ, lg_lt, lg_ge, lg_eq0, lg_le, lg_gt, lg_ltn, lg_gen, lg_eq0n, lg_len, lg_gtn, Nat.zero_le, Nat.not_lt_zero, not_false_eq_true, not_true_eq_false, true_and, and_true]; omega) | omega)) (fin g0 q1 _ rfl)
      · rw [hi_nk (by decide), hi_at]
      · intro m h1 h2
        rw [cb_ne (by decide), cb_ne (by decide)]
        exact q2 m (by omega) h2
      · intro m hm
        rw [hi_hsi_ne (by decide), hi_hsi_ne (by decide)]
        exact q3 m (by omega)
    | succ r ih =>
      intro s fuel g0 e hs hf F q1 q2 q3
      obtain ⟨f, rfl, -⟩ := fuel_pos hf
      have Bg : BY g0 1245 1246 := by rw [F.by]; exact B
      obtain ⟨g, z1, z2⟩ := ih (s + 1) f (hsi g0 1246 (4000 - s) (vp_nar .byte (Int32.toInt8 0).toInt32)) (by omega) (by omega) (by omega) (F.si (by unfold uP; omega)) (by rw [hi_hsi_ne (by decide)]; exact q1) (fun m h1 h2 => by
        by_cases c : m = 4000 - s
        · rw [c, cb_put]; rfl
        · rw [cb_nk c]
          exact q2 m (by omega) h2) (fun m hm => by
        rw [hi_nk (by omega)]
        exact q3 m (by omega))
      refine ⟨g, ?_, z2⟩
      show s_u_grow_19 (b_u_grow_19 f) _ _ _ _ = _
      unfold s_u_grow_19
      refine o_neg (by (first | (simp (maxSteps := 4000000) (disch := omega) only [n_0, n_1, n_2, n_3, n_4, n_5, n_6, n_7, n_8, n_9, n_10, n_11, n_12, n_13, n_14, n_15, n_16, n_18, n_20, n_24, n_31, n_32, n_34, n_40, n_41, n_44, n_45, n_47, n_48, n_57, n_58, n_59, n_61, n_63, n_64, n_65, n_68, n_90, n_91, n_93, n_95, n_97, n_100, n_122, n_123, n_125, n_128, n_144, n_200, n_255, n_256, n_300, n_400, n_600, n_1536, n_3980, n_4000, n_4001, n_4300, n_65536, l_0, l_1, l_2, l_3, l_4, l_10, l_48, l_63, l_255, l_300, nI_ltI, nI_leI, nI_eq, nI_clamp, nI_add, pk_sub, pk_mul, nI_ne1, ne1_nI, nI_pge, nI_nlt0, nI_l, lN_i, lN_add, lN_mul, lN_sub, pk_lLT, pk_lLE, pk_lEQ, lg_lt, lg_ge, lg_eq0, lg_le, lg_gt, lg_ltn, lg_gen, lg_eq0n, lg_len, lg_gtn, Nat.zero_le, Nat.not_lt_zero, not_false_eq_true, not_true_eq_false, true_and, and_true]; done) | (simp (maxSteps := 4000000) (disch := omega) only [n_0, n_1, n_2, n_3, n_4, n_5, n_6, n_7, n_8, n_9, n_10, n_11, n_12, n_13, n_14, n_15, n_16, n_18, n_20, n_24, n_31, n_32, n_34, n_40, n_41, n_44, n_45, n_47, n_48, n_57, n_58, n_59, n_61, n_63, n_64, n_65, n_68, n_90, n_91, n_93, n_95, n_97, n_100, n_122, n_123, n_125, n_128, n_144, n_200, n_255, n_256, n_300, n_400, n_600, n_1536, n_3980, n_4000, n_4001, n_4300, n_65536, l_0, l_1, l_2, l_3, l_4, l_10, l_48, l_63, l_255, l_300, nI_ltI, nI_leI, nI_eq, nI_clamp, nI_add, pk_sub, pk_mul, nI_ne1, ne1_nI, nI_pge, nI_nlt0, nI_l, lN_i, lN_add, lN_mul, lN_sub, pk_lLT, pk_lLE, pk_lEQ, lg_lt, lg_ge, lg_eq0, lg_le, lg_gt, lg_ltn, lg_gen, lg_eq0n, lg_len, lg_gtn, Nat.zero_le, Nat.not_lt_zero, not_false_eq_true, not_true_eq_false, true_and, and_true]; omega) | omega)) ?_
      rw [n_4000, pk_sub (by omega)]
      refine o_bind (e_b_putOctet Bg (by omega)) ?_
      rw [n_1, nI_add]
      exact z1
  obtain ⟨g, z1, z2⟩ := lp (N - n) (n + 1) 100000 h (by omega) (by omega) (by omega) FRM.refl e2 (fun m h1 h2 => by omega) (fun m _ => rfl)
  refine ⟨g, ?_, z2⟩
  unfold f_u_grow
  rw [e1, nI_add]
  refine o_bind (e_t_roundUp (by omega) ha) ?_
  dsimp only
  rw [← hNN, e1, n_1, nI_add]
  exact z1
/-- a number is put into the row -/
theorem e_u_put {i k : Nat} {v : Int64} (B : BY h 1245 1246) (hk8 : k ≤ 8) (hik : i + k ≤ 4000) : ∃ g, f_b_putNumber 1245 (nI i) (nI k) v h = some ((), g) ∧ FRM (fun a _ => a = 1246) h g ∧ (∀ j, j < k → cb g 1246 (i + j) = v8 v j) ∧ ∀ m, m < i ∨ i + k ≤ m → hi g 1246 m = hi h 1246 m := by
  obtain ⟨f, z1, z2, z3⟩ := e_b_putNumber (v := v) B hk8 hik
  exact ⟨_, z1, FRM.refl.ri (fun _ => rfl), z2, fun m hm => by rw [hi_hri_eq]; exact z3 m hm⟩
theorem e_u_copy {m f0 t0 : Nat} (B : BY h 1245 1246) (B2 : BY h 1 2) (hf : f0 + m ≤ 4000) (ht : t0 + m ≤ 4000) : ∃ g, f_b_copy 1245 1 (nI f0) (nI t0) (nI m) h = some ((), g) ∧ FRM (fun a _ => a = 1246) h g ∧ (∀ j, j < m → cb g 1246 (t0 + j) = cb h 2 (f0 + j)) ∧ ∀ k, k < t0 ∨ t0 + m ≤ k → hi g 1246 k = hi h 1246 k := by
  obtain ⟨f, z1, z2, z3⟩ := e_b_copy B B2 (by decide) hf ht
  exact ⟨_, z1, FRM.refl.ri (fun _ => rfl), z2, fun m hm => by rw [hi_hri_eq]; exact z3 m hm⟩
/-- what a new thing writes -/
def uTh (tc a k : Nat) : Prop := (1247 ≤ a ∧ a ≤ 1250 ∧ k = tc) ∨ (a = 1244 ∧ k = 7)
theorem e_u_addThing {tc : Nat} {x y z : Int32} (e7 : hi h 1244 7 = nI tc) (ht : tc < 300) : ∃ g, f_u_addThing x y z h = some (nI tc, g) ∧ FRM (uTh tc) h g ∧ hi g 1244 7 = nI (tc + 1) ∧ hi g 1247 tc = x ∧ hi g 1248 tc = y ∧ hi g 1249 tc = z ∧ hi g 1250 tc = hi h 1244 1 := by
  unfold f_u_addThing
  rw [e7, nI_clamp (show tc < 2 ^ 31 by omega), n_1, nI_add]
  refine ⟨_, o_neg (by (first | (simp (maxSteps := 4000000) (disch := omega) only [n_0, n_1, n_2, n_3, n_4, n_5, n_6, n_7, n_8, n_9, n_10, n_11, n_12, n_13, n_14, n_15, n_16, n_18, n_20, n_24, n_31, n_32, n_34, n_40, n_41, n_44, n_45, n_47, n_48, n_57, n_58, n_59, n_61, n_63, n_64, n_65, n_68, n_90, n_91, n_93, n_95, n_97, n_100, n_122, n_123, n_125, n_128, n_144, n_200, n_255, n_256, n_300, n_400, n_600, n_1536, n_3980, n_4000, n_4001, n_4300, n_65536, l_0, l_1, l_2, l_3, l_4, l_10, l_48, l_63, l_255, l_300, nI_ltI, nI_leI, nI_eq, nI_clamp, nI_add, pk_sub, pk_mul, nI_ne1, ne1_nI, nI_pge, nI_nlt0, nI_l, lN_i, lN_add, lN_mul, lN_sub, pk_lLT, pk_lLE, pk_lEQ, lg_lt, lg_ge, lg_eq0, lg_le, lg_gt, lg_ltn, lg_gen, lg_eq0n, lg_len, lg_gtn, Nat.zero_le, Nat.not_lt_zero, not_false_eq_true, not_true_eq_false, true_and, and_true]; done) | (simp (maxSteps := 4000000) (disch := omega) only [n_0, n_1, n_2, n_3, n_4, n_5, n_6, n_7, n_8, n_9, n_10, n_11, n_12, n_13, n_14, n_15, n_16, n_18, n_20, n_24, n_31, n_32, n_34, n_40, n_41, n_44, n_45, n_47, n_48, n_57, n_58, n_59, n_61, n_63, n_64, n_65, n_68, n_90, n_91, n_93, n_95, n_97, n_100, n_122, n_123, n_125, n_128, n_144, n_200, n_255, n_256, n_300, n_400, n_600, n_1536, n_3980, n_4000, n_4001, n_4300, n_65536, l_0, l_1, l_2, l_3, l_4, l_10, l_48, l_63, l_255, l_300, nI_ltI, nI_leI, nI_eq, nI_clamp, nI_add, pk_sub, pk_mul, nI_ne1, ne1_nI, nI_pge, nI_nlt0, nI_l, lN_i, lN_add, lN_mul, lN_sub, pk_lLT, pk_lLE, pk_lEQ, lg_lt, lg_ge, lg_eq0, lg_le, lg_gt, lg_ltn, lg_gen, lg_eq0n, lg_len, lg_gtn, Nat.zero_le, Nat.not_lt_zero, not_false_eq_true, not_true_eq_false, true_and, and_true]; omega) | omega)) (o_pos (by (first | (simp (maxSteps := 4000000) (disch := omega) only [n_0, n_1, n_2, n_3, n_4, n_5, n_6, n_7, n_8, n_9, n_10, n_11, n_12, n_13, n_14, n_15, n_16, n_18, n_20, n_24, n_31, n_32, n_34, n_40, n_41, n_44, n_45, n_47, n_48, n_57, n_58, n_59, n_61, n_63, n_64, n_65, n_68, n_90, n_91, n_93, n_95, n_97, n_100, n_122, n_123, n_125, n_128, n_144, n_200, n_255, n_256, n_300, n_400, n_600, n_1536, n_3980, n_4000, n_4001, n_4300, n_65536, l_0, l_1, l_2, l_3, l_4, l_10, l_48, l_63, l_255, l_300, nI_ltI, nI_leI, nI_eq, nI_clamp, nI_add, pk_sub, pk_mul, nI_ne1, ne1_nI, nI_pge, nI_nlt0, nI_l, lN_i, lN_add, lN_mul, lN_sub, pk_lLT, pk_lLE, pk_lEQ, lg_lt, lg_ge, lg_eq0, lg_le, lg_gt, lg_ltn, lg_gen, lg_eq0n, lg_len, lg_gtn, Nat.zero_le, Nat.not_lt_zero, not_false_eq_true, not_true_eq_false, true_and, and_true]; done) | (simp (maxSteps := 4000000) (disch := omega) only [n_0, n_1, n_2, n_3, n_4, n_5, n_6, n_7, n_8, n_9, n_10, n_11, n_12, n_13, n_14, n_15, n_16, n_18, n_20, n_24, n_31, n_32, n_34, n_40, n_41, n_44, n_45, n_47, n_48, n_57, n_58, n_59, n_61, n_63, n_64, n_65, n_68, n_90, n_91, n_93, n_95, n_97, n_100, n_122, n_123, n_125, n_128, n_144, n_200, n_255, n_256, n_300, n_400, n_600, n_1536, n_3980, n_4000, n_4001, n_4300, n_65536, l_0, l_1, l_2, l_3, l_4, l_10, l_48, l_63, l_255, l_300, nI_ltI, nI_leI, nI_eq, nI_clamp, nI_add, pk_sub, pk_mul, nI_ne1, ne1_nI, nI_pge, nI_nlt0, nI_l, lN_i, lN_add, lN_mul, lN_sub, pk_lLT, pk_lLE, pk_lEQ, lg_lt, lg_ge, lg_eq0, lg_le, lg_gt, lg_ltn, lg_gen, lg_eq0n, lg_len, lg_gtn, Nat.zero_le, Nat.not_lt_zero, not_false_eq_true, not_true_eq_false, true_and, and_true]; omega) | omega)) rfl), ((((FRM.refl.si ?_).si ?_).si ?_).si ?_).si ?_, hi_at, ?_, ?_, ?_, ?_⟩
  · unfold uTh; omega
  · unfold uTh; omega
  · unfold uTh; omega
  · unfold uTh; omega
  · unfold uTh; omega
  · simp (maxSteps := 4000000) (disch := omega) only [hi_hsi_ne, hi_at]
  · simp (maxSteps := 4000000) (disch := omega) only [hi_hsi_ne, hi_at]
  · simp (maxSteps := 4000000) (disch := omega) only [hi_hsi_ne, hi_at]
  · simp (maxSteps := 4000000) (disch := omega) only [hi_hsi_ne, hi_at]
/-! the model's row -/
def mP (a k : Nat) : Prop := a = 1299 ∨ (a = 1262 ∧ k = 57)
theorem e_m_zeros {k : Nat} (e : hi h 1262 57 = nI n) (hk' : n + k ≤ 4300) : ∃ g, f_m_zeros (nI k) h = some ((), g) ∧ FRM mP h g ∧ hi g 1262 57 = nI (n + k) ∧ (∀ i, i < n → hi g 1299 i = hi h 1299 i) ∧ ∀ i, n ≤ i → i < n + k → hi g 1299 i = 0 := by
  have lp : ∀ r j fuel g0, j + r = k → r < fuel → FRM mP h g0 → hi g0 1262 57 = nI (n + j) → (∀ i, i < n → hi g0 1299 i = hi h 1299 i) → (∀ i, n ≤ i → i < n + j → hi g0 1299 i = 0) → ∃ g, b_m_zeros_2 fuel (nI k) (nI j) g0 = some ((), g) ∧ FRM mP h g ∧ hi g 1262 57 = nI (n + k) ∧ (∀ i, i < n → hi g 1299 i = hi h 1299 i) ∧ ∀ i, n ≤ i → i < n + k → hi g 1299 i = 0 := by
    intro r
    induction r with
    | zero =>
      intro j fuel g0 e0 hf F q1 q2 q3
      obtain ⟨f, rfl, -⟩ := fuel_pos hf
      have e1 : j = k := by omega
      subst e1
      refine ⟨g0, ?_, F, q1, q2, q3⟩
      show s_m_zeros_2 (b_m_zeros_2 f) _ _ _ = _
      unfold s_m_zeros_2
      exact o_pos (Int32.le_refl _) rfl
    | succ r ih =>
      intro j fuel g0 e0 hf F q1 q2 q3
      obtain ⟨f, rfl, -⟩ := fuel_pos hf
      obtain ⟨g, z1, z2⟩ := ih (j + 1) f (hsi (hsi g0 1299 (n + j) 0) 1262 57 (nI (n + (j + 1)))) (by omega) (by omega) ((F.si (Or.inl rfl)).si (Or.inr ⟨rfl, rfl⟩)) hi_at (fun i hi' => by
        rw [hi_hsi_ne (by decide), hi_nk (by omega)]
        exact q2 i hi') (fun i h1 h2 => by
        rw [hi_hsi_ne (by decide)]
        by_cases c : i = n + j
        · rw [c, hi_at]
        · rw [hi_nk c]
          exact q3 i h1 (by omega))
      refine ⟨g, ?_, z2⟩
      show s_m_zeros_2 (b_m_zeros_2 f) _ _ _ = _
      unfold s_m_zeros_2
      rw [q1, nI_clamp (show n + j < 2 ^ 31 by omega), n_1, nI_add, nI_add]
      exact o_neg (by (first | (simp (maxSteps := 4000000) (disch := omega) only [n_0, n_1, n_2, n_3, n_4, n_5, n_6, n_7, n_8, n_9, n_10, n_11, n_12, n_13, n_14, n_15, n_16, n_18, n_20, n_24, n_31, n_32, n_34, n_40, n_41, n_44, n_45, n_47, n_48, n_57, n_58, n_59, n_61, n_63, n_64, n_65, n_68, n_90, n_91, n_93, n_95, n_97, n_100, n_122, n_123, n_125, n_128, n_144, n_200, n_255, n_256, n_300, n_400, n_600, n_1536, n_3980, n_4000, n_4001, n_4300, n_65536, l_0, l_1, l_2, l_3, l_4, l_10, l_48, l_63, l_255, l_300, nI_ltI, nI_leI, nI_eq, nI_clamp, nI_add, pk_sub, pk_mul, nI_ne1, ne1_nI, nI_pge, nI_nlt0, nI_l, lN_i, lN_add, lN_mul, lN_sub, pk_lLT, pk_lLE, pk_lEQ, lg_lt, lg_ge, lg_eq0, lg_le, lg_gt, lg_ltn, lg_gen, lg_eq0n, lg_len, lg_gtn, Nat.zero_le, Nat.not_lt_zero, not_false_eq_true, not_true_eq_false, true_and, and_true]; done) | (simp (maxSteps := 4000000) (disch := omega) only [n_0, n_1, n_2, n_3, n_4, n_5, n_6, n_7, n_8, n_9, n_10, n_11, n_12, n_13, n_14, n_15, n_16, n_18, n_20, n_24, n_31, n_32, n_34, n_40, n_41, n_44, n_45, n_47, n_48, n_57, n_58, n_59, n_61, n_63, n_64, n_65, n_68, n_90, n_91, n_93, n_95, n_97, n_100, n_122, n_123, n_125, n_128, n_144, n_200, n_255, n_256, n_300, n_400, n_600, n_1536, n_3980, n_4000, n_4001, n_4300, n_65536, l_0, l_1, l_2, l_3, l_4, l_10, l_48, l_63, l_255, l_300, nI_ltI, nI_leI, nI_eq, nI_clamp, nI_add, pk_sub, pk_mul, nI_ne1, ne1_nI, nI_pge, nI_nlt0, nI_l, lN_i, lN_add, lN_mul, lN_sub, pk_lLT, pk_lLE, pk_lEQ, lg_lt, lg_ge, lg_eq0, lg_le, lg_gt, lg_ltn, lg_gen, lg_eq0n, lg_len, lg_gtn, Nat.zero_le, Nat.not_lt_zero, not_false_eq_true, not_true_eq_false, true_and, and_true]; omega) | omega)) (o_pos (by (first | (simp (maxSteps := 4000000) (disch := omega) only [n_0, n_1, n_2, n_3, n_4, n_5, n_6, n_7, n_8, n_9, n_10, n_11, n_12, n_13, n_14, n_15, n_16, n_18, n_20, n_24, n_31, n_32, n_34, n_40, n_41, n_44, n_45, n_47, n_48, n_57, n_58, n_59, n_61, n_63, n_64, n_65, n_68, n_90, n_91, n_93, n_95, n_97, n_100, n_122, n_123, n_125, n_128, n_144, n_200, n_255, n_256, n_300, n_400, n_600, n_1536, n_3980, n_4000, n_4001, n_4300, n_65536, l_0, l_1, l_2, l_3, l_4, l_10, l_48, l_63, l_255, l_300, nI_ltI, nI_leI, nI_eq, nI_clamp, nI_add, pk_sub, pk_mul, nI_ne1, ne1_nI, nI_pge, nI_nlt0, nI_l, lN_i, lN_add, lN_mul, lN_sub, pk_lLT, pk_lLE, pk_lEQ, lg_lt, lg_ge, lg_eq0, lg_le, lg_gt, lg_ltn, lg_gen, lg_eq0n, lg_len, lg_gtn, Nat.zero_le, Nat.not_lt_zero, not_false_eq_true, not_true_eq_false, true_and, and_true]; done) | (simp (maxSteps := 4000000) (disch := omega) only [n_0, n_1, n_2, n_3, n_4, n_5, n_6, n_7, n_8, n_9, n_10, n_11, n_12, n_13, n_14, n_15, n_16, n_18, n_20, n_24, n_31, n_32, n_34, n_40, n_41, n_44, n_45, n_47, n_48, n_57, n_58, n_59, n_61, n_63, n_64, n_65, n_68, n_90, n_91, n_93, n_95, n_97, n_100, n_122, n_123, n_125, n_128, n_144, n_200, n_255, n_256, n_300, n_400, n_600, n_1536, n_3980, n_4000, n_4001, n_4300, n_65536, l_0, l_1, l_2, l_3, l_4, l_10, l_48, l_63, l_255, l_300, nI_ltI, nI_leI, nI_eq, nI_clamp, nI_add, pk_sub, pk_mul, nI_ne1, ne1_nI, nI_pge, nI_nlt0, nI_l, lN_i, lN_add, lN_mul, lN_sub, pk_lLT, pk_lLE, pk_lEQ, lg_lt, lg_ge, lg_eq0, lg_le, lg_gt, lg_ltn, lg_gen, lg_eq0n, lg_len, lg_gtn, Nat.zero_le, Nat.not_lt_zero, not_false_eq_true, not_true_eq_false, true_and, and_true]; omega) | omega)) z1)
  exact lp k 0 100000 h (by omega) (by omega) FRM.refl e (fun _ _ => rfl) (fun i h1 h2 => by omega)
theorem e_m_ahead {v : Int64} : ∀ (r n fuel : Nat) (h : XH), r < fuel → r ≤ 8 → hi h 1262 57 = nI n → n + r ≤ 4300 → ∃ g, b_m_ahead_5 fuel v (nI r - 1) h = some ((), g) ∧ FRM mP h g ∧ hi g 1262 57 = nI (n + r) ∧ (∀ i, i < n → hi g 1299 i = hi h 1299 i) ∧ ∀ j, j < r → hi g 1299 (n + j) = nI (v8 v (r - 1 - j)) := by
  intro r
  induction r with
  | zero =>
    intro n fuel h hf h8 e hn'
    obtain ⟨f, rfl, -⟩ := fuel_pos hf
    refine ⟨h, ?_, FRM.refl, e, fun _ _ => rfl, fun j hj' => absurd hj' (Nat.not_lt_zero j)⟩
    show s_m_ahead_5 (b_m_ahead_5 f) _ _ _ = _
    unfold s_m_ahead_5
    exact o_pos (by decide) rfl
  | succ r ih =>
    intro n fuel h hf h8 e hn'
    obtain ⟨f, rfl, -⟩ := fuel_pos hf
    obtain ⟨g, z1, F, z2, z3, z4⟩ := ih (n + 1) f (hsi (hsi h 1299 n (nI (v8 v r))) 1262 57 (nI (n + 1))) (by omega) (by omega) hi_at (by omega)
    refine ⟨g, ?_, ((FRM.refl.si (Or.inl rfl)).si (Or.inr ⟨rfl, rfl⟩)).trans F, ?_, ?_, ?_⟩
    · show s_m_ahead_5 (b_m_ahead_5 f) _ _ _ = _
      unfold s_m_ahead_5
      rw [nI_pred, e, nI_clamp (show n < 2 ^ 31 by omega), m_byte v r (by omega), i_m1, n_1, nI_add]
      exact o_neg (by (first | (simp (maxSteps := 4000000) (disch := omega) only [n_0, n_1, n_2, n_3, n_4, n_5, n_6, n_7, n_8, n_9, n_10, n_11, n_12, n_13, n_14, n_15, n_16, n_18, n_20, n_24, n_31, n_32, n_34, n_40, n_41, n_44, n_45, n_47, n_48, n_57, n_58, n_59, n_61, n_63, n_64, n_65, n_68, n_90, n_91, n_93, n_95, n_97, n_100, n_122, n_123, n_125, n_128, n_144, n_200, n_255, n_256, n_300, n_400, n_600, n_1536, n_3980, n_4000, n_4001, n_4300, n_65536, l_0, l_1, l_2, l_3, l_4, l_10, l_48, l_63, l_255, l_300, nI_ltI, nI_leI, nI_eq, nI_clamp, nI_add, pk_sub, pk_mul, nI_ne1, ne1_nI, nI_pge, nI_nlt0, nI_l, lN_i, lN_add, lN_mul, lN_sub, pk_lLT, pk_lLE, pk_lEQ, lg_lt, lg_ge, lg_eq0, lg_le, lg_gt, lg_ltn, lg_gen, lg_eq0n, lg_len, lg_gtn, Nat.zero_le, Nat.not_lt_zero, not_false_eq_true, not_true_eq_false, true_and, and_true]; done) | (simp (maxSteps := 4000000) (disch := omega) only [n_0, n_1, n_2, n_3, n_4, n_5, n_6, n_7, n_8, n_9, n_10, n_11, n_12, n_13, n_14, n_15, n_16, n_18, n_20, n_24, n_31, n_32, n_34, n_40, n_41, n_44, n_45, n_47, n_48, n_57, n_58, n_59, n_61, n_63, n_64, n_65, n_68, n_90, n_91, n_93, n_95, n_97, n_100, n_122, n_123, n_125, n_128, n_144, n_200, n_255, n_256, n_300, n_400, n_600, n_1536, n_3980, n_4000, n_4001, n_4300, n_65536, l_0, l_1, l_2, l_3, l_4, l_10, l_48, l_63, l_255, l_300, nI_ltI, nI_leI, nI_eq, nI_clamp, nI_add, pk_sub, pk_mul, nI_ne1, ne1_nI, nI_pge, nI_nlt0, nI_l, lN_i, lN_add, lN_mul, lN_sub, pk_lLT, pk_lLE, pk_lEQ, lg_lt, lg_ge, lg_eq0, lg_le, lg_gt, lg_ltn, lg_gen, lg_eq0n, lg_len, lg_gtn, Nat.zero_le, Nat.not_lt_zero, not_false_eq_true, not_true_eq_false, true_and, and_true]; omega) | omega)) (o_pos (by (first | (simp (maxSteps := 4000000) (disch := omega) only [n_0, n_1, n_2, n_3, n_4, n_5, n_6, n_7, n_8, n_9, n_10, n_11, n_12, n_13, n_14, n_15, n_16, n_18, n_20, n_24, n_31, n_32, n_34, n_40, n_41, n_44, n_45, n_47, n_48, n_57, n_58, n_59, n_61, n_63, n_64, n_65, n_68, n_90, n_91, n_93, n_95, n_97, n_100, n_122, n_123, n_125, n_128, n_144, n_200, n_255, n_256, n_300, n_400, n_600, n_1536, n_3980, n_4000, n_4001, n_4300, n_65536, l_0, l_1, l_2, l_3, l_4, l_10, l_48, l_63, l_255, l_300, nI_ltI, nI_leI, nI_eq, nI_clamp, nI_add, pk_sub, pk_mul, nI_ne1, ne1_nI, nI_pge, nI_nlt0, nI_l, lN_i, lN_add, lN_mul, lN_sub, pk_lLT, pk_lLE, pk_lEQ, lg_lt, lg_ge, lg_eq0, lg_le, lg_gt, lg_ltn, lg_gen, lg_eq0n, lg_len, lg_gtn, Nat.zero_le, Nat.not_lt_zero, not_false_eq_true, not_true_eq_false, true_and, and_true]; done) | (simp (maxSteps := 4000000) (disch := omega) only [n_0, n_1, n_2, n_3, n_4, n_5, n_6, n_7, n_8, n_9, n_10, n_11, n_12, n_13, n_14, n_15, n_16, n_18, n_20, n_24, n_31, n_32, n_34, n_40, n_41, n_44, n_45, n_47, n_48, n_57, n_58, n_59, n_61, n_63, n_64, n_65, n_68, n_90, n_91, n_93, n_95, n_97, n_100, n_122, n_123, n_125, n_128, n_144, n_200, n_255, n_256, n_300, n_400, n_600, n_1536, n_3980, n_4000, n_4001, n_4300, n_65536, l_0, l_1, l_2, l_3, l_4, l_10, l_48, l_63, l_255, l_300, nI_ltI, nI_leI, nI_eq, nI_clamp, nI_add, pk_sub, pk_mul, nI_ne1, ne1_nI, nI_pge, nI_nlt0, nI_l, lN_i, lN_add, lN_mul, lN_sub, pk_lLT, pk_lLE, pk_lEQ, lg_lt, lg_ge, lg_eq0, lg_le, lg_gt, lg_ltn, lg_gen, lg_eq0n, lg_len, lg_gtn, Nat.zero_le, Nat.not_lt_zero, not_false_eq_true, not_true_eq_false, true_and, and_true]; omega) | omega)) z1)
    · rw [z2]
      congr 1
      omega
    · intro i hi'
      rw [z3 i (by omega), hi_hsi_ne (by decide), hi_nk (by omega)]
    · intro j hj'
      by_cases c : j = 0
      · subst c
        rw [Nat.add_zero, z3 n (by omega), hi_hsi_ne (by decide), hi_at]
        rfl
      · have := z4 (j - 1) (by omega)
        rw [show n + 1 + (j - 1) = n + j by omega, show r - 1 - (j - 1) = r + 1 - 1 - j by omega] at this
        exact this
theorem e_m_aheadk {v : Int64} {k : Nat} (e : hi h 1262 57 = nI n) (h8 : k ≤ 8) (hn' : n + k ≤ 4300) : ∃ g, f_m_ahead v (nI k) h = some ((), g) ∧ FRM mP h g ∧ hi g 1262 57 = nI (n + k) ∧ (∀ i, i < n → hi g 1299 i = hi h 1299 i) ∧ ∀ j, j < k → hi g 1299 (n + j) = nI (v8 v (k - 1 - j)) :=
  e_m_ahead k n 100000 h (by omega) h8 e hn'
def mTh (tc a k : Nat) : Prop := (1300 ≤ a ∧ a ≤ 1303 ∧ k = tc) ∨ (a = 1262 ∧ k = 59)
theorem e_m_thing {tc : Nat} {x y z : Int32} (e7 : hi h 1262 59 = nI tc) (ht : tc < 300) : ∃ g, f_m_thing x y z h = some (nI tc, g) ∧ FRM (mTh tc) h g ∧ hi g 1262 59 = nI (tc + 1) ∧ hi g 1300 tc = x ∧ hi g 1301 tc = y ∧ hi g 1302 tc = z ∧ hi g 1303 tc = hi h 1262 57 := by
  unfold f_m_thing
  rw [e7, nI_clamp (show tc < 2 ^ 31 by omega), n_1, nI_add, pk_sub (by omega), Nat.add_sub_cancel]
  refine ⟨_, o_pos (by (first | (simp (maxSteps := 4000000) (disch := omega) only [n_0, n_1, n_2, n_3, n_4, n_5, n_6, n_7, n_8, n_9, n_10, n_11, n_12, n_13, n_14, n_15, n_16, n_18, n_20, n_24, n_31, n_32, n_34, n_40, n_41, n_44, n_45, n_47, n_48, n_57, n_58, n_59, n_61, n_63, n_64, n_65, n_68, n_90, n_91, n_93, n_95, n_97, n_100, n_122, n_123, n_125, n_128, n_144, n_200, n_255, n_256, n_300, n_400, n_600, n_1536, n_3980, n_4000, n_4001, n_4300, n_65536, l_0, l_1, l_2, l_3, l_4, l_10, l_48, l_63, l_255, l_300, nI_ltI, nI_leI, nI_eq, nI_clamp, nI_add, pk_sub, pk_mul, nI_ne1, ne1_nI, nI_pge, nI_nlt0, nI_l, lN_i, lN_add, lN_mul, lN_sub, pk_lLT, pk_lLE, pk_lEQ, lg_lt, lg_ge, lg_eq0, lg_le, lg_gt, lg_ltn, lg_gen, lg_eq0n, lg_len, lg_gtn, Nat.zero_le, Nat.not_lt_zero, not_false_eq_true, not_true_eq_false, true_and, and_true]; done) | (simp (maxSteps := 4000000) (disch := omega) only [n_0, n_1, n_2, n_3, n_4, n_5, n_6, n_7, n_8, n_9, n_10, n_11, n_12, n_13, n_14, n_15, n_16, n_18, n_20, n_24, n_31, n_32, n_34, n_40, n_41, n_44, n_45, n_47, n_48, n_57, n_58, n_59, n_61, n_63, n_64, n_65, n_68, n_90, n_91, n_93, n_95, n_97, n_100, n_122, n_123, n_125, n_128, n_144, n_200, n_255, n_256, n_300, n_400, n_600, n_1536, n_3980, n_4000, n_4001, n_4300, n_65536, l_0, l_1, l_2, l_3, l_4, l_10, l_48, l_63, l_255, l_300, nI_ltI, nI_leI, nI_eq, nI_clamp, nI_add, pk_sub, pk_mul, nI_ne1, ne1_nI, nI_pge, nI_nlt0, nI_l, lN_i, lN_add, lN_mul, lN_sub, pk_lLT, pk_lLE, pk_lEQ, lg_lt, lg_ge, lg_eq0, lg_le, lg_gt, lg_ltn, lg_gen, lg_eq0n, lg_len, lg_gtn, Nat.zero_le, Nat.not_lt_zero, not_false_eq_true, not_true_eq_false, true_and, and_true]; omega) | omega)) rfl, ((((FRM.refl.si ?_).si ?_).si ?_).si ?_).si ?_, hi_at, ?_, ?_, ?_, ?_⟩
  · unfold mTh; omega
  · unfold mTh; omega
  · unfold mTh; omega
  · unfold mTh; omega
  · unfold mTh; omega
  · simp (maxSteps := 4000000) (disch := omega) only [hi_hsi_ne, hi_at]
  · simp (maxSteps := 4000000) (disch := omega) only [hi_hsi_ne, hi_at]
  · simp (maxSteps := 4000000) (disch := omega) only [hi_hsi_ne, hi_at]
  · simp (maxSteps := 4000000) (disch := omega) only [hi_hsi_ne, hi_at]
theorem e_m_aligned {gm : Nat} (e : hi h 1262 58 = nI gm) (hg : gm ≤ 8) (ha : a ≤ 8) : f_m_aligned (nI a) h = some ((), hsi h 1262 58 (nI (max gm a))) := by
  unfold f_m_aligned b_m_aligned_17
  rw [e]
  by_cases c : a ≤ gm
  · rw [Nat.max_eq_left c]
    exact o_pos (by (first | (simp (maxSteps := 4000000) (disch := omega) only [n_0, n_1, n_2, n_3, n_4, n_5, n_6, n_7, n_8, n_9, n_10, n_11, n_12, n_13, n_14, n_15, n_16, n_18, n_20, n_24, n_31, n_32, n_34, n_40, n_41, n_44, n_45, n_47, n_48, n_57, n_58, n_59, n_61, n_63, n_64, n_65, n_68, n_90, n_91, n_93, n_95, n_97, n_100, n_122, n_123, n_125, n_128, n_144, n_200, n_255, n_256, n_300, n_400, n_600, n_1536, n_3980, n_4000, n_4001, n_4300, n_65536, l_0, l_1, l_2, l_3, l_4, l_10, l_48, l_63, l_255, l_300, nI_ltI, nI_leI, nI_eq, nI_clamp, nI_add, pk_sub, pk_mul, nI_ne1, ne1_nI, nI_pge, nI_nlt0, nI_l, lN_i, lN_add, lN_mul, lN_sub, pk_lLT, pk_lLE, pk_lEQ, lg_lt, lg_ge, lg_eq0, lg_le, lg_gt, lg_ltn, lg_gen, lg_eq0n, lg_len, lg_gtn, Nat.zero_le, Nat.not_lt_zero, not_false_eq_true, not_true_eq_false, true_and, and_true]; done) | (simp (maxSteps := 4000000) (disch := omega) only [n_0, n_1, n_2, n_3, n_4, n_5, n_6, n_7, n_8, n_9, n_10, n_11, n_12, n_13, n_14, n_15, n_16, n_18, n_20, n_24, n_31, n_32, n_34, n_40, n_41, n_44, n_45, n_47, n_48, n_57, n_58, n_59, n_61, n_63, n_64, n_65, n_68, n_90, n_91, n_93, n_95, n_97, n_100, n_122, n_123, n_125, n_128, n_144, n_200, n_255, n_256, n_300, n_400, n_600, n_1536, n_3980, n_4000, n_4001, n_4300, n_65536, l_0, l_1, l_2, l_3, l_4, l_10, l_48, l_63, l_255, l_300, nI_ltI, nI_leI, nI_eq, nI_clamp, nI_add, pk_sub, pk_mul, nI_ne1, ne1_nI, nI_pge, nI_nlt0, nI_l, lN_i, lN_add, lN_mul, lN_sub, pk_lLT, pk_lLE, pk_lEQ, lg_lt, lg_ge, lg_eq0, lg_le, lg_gt, lg_ltn, lg_gen, lg_eq0n, lg_len, lg_gtn, Nat.zero_le, Nat.not_lt_zero, not_false_eq_true, not_true_eq_false, true_and, and_true]; omega) | omega)) rfl
  · rw [Nat.max_eq_right (by omega)]
    exact o_neg (by (first | (simp (maxSteps := 4000000) (disch := omega) only [n_0, n_1, n_2, n_3, n_4, n_5, n_6, n_7, n_8, n_9, n_10, n_11, n_12, n_13, n_14, n_15, n_16, n_18, n_20, n_24, n_31, n_32, n_34, n_40, n_41, n_44, n_45, n_47, n_48, n_57, n_58, n_59, n_61, n_63, n_64, n_65, n_68, n_90, n_91, n_93, n_95, n_97, n_100, n_122, n_123, n_125, n_128, n_144, n_200, n_255, n_256, n_300, n_400, n_600, n_1536, n_3980, n_4000, n_4001, n_4300, n_65536, l_0, l_1, l_2, l_3, l_4, l_10, l_48, l_63, l_255, l_300, nI_ltI, nI_leI, nI_eq, nI_clamp, nI_add, pk_sub, pk_mul, nI_ne1, ne1_nI, nI_pge, nI_nlt0, nI_l, lN_i, lN_add, lN_mul, lN_sub, pk_lLT, pk_lLE, pk_lEQ, lg_lt, lg_ge, lg_eq0, lg_le, lg_gt, lg_ltn, lg_gen, lg_eq0n, lg_len, lg_gtn, Nat.zero_le, Nat.not_lt_zero, not_false_eq_true, not_true_eq_false, true_and, and_true]; done) | (simp (maxSteps := 4000000) (disch := omega) only [n_0, n_1, n_2, n_3, n_4, n_5, n_6, n_7, n_8, n_9, n_10, n_11, n_12, n_13, n_14, n_15, n_16, n_18, n_20, n_24, n_31, n_32, n_34, n_40, n_41, n_44, n_45, n_47, n_48, n_57, n_58, n_59, n_61, n_63, n_64, n_65, n_68, n_90, n_91, n_93, n_95, n_97, n_100, n_122, n_123, n_125, n_128, n_144, n_200, n_255, n_256, n_300, n_400, n_600, n_1536, n_3980, n_4000, n_4001, n_4300, n_65536, l_0, l_1, l_2, l_3, l_4, l_10, l_48, l_63, l_255, l_300, nI_ltI, nI_leI, nI_eq, nI_clamp, nI_add, pk_sub, pk_mul, nI_ne1, ne1_nI, nI_pge, nI_nlt0, nI_l, lN_i, lN_add, lN_mul, lN_sub, pk_lLT, pk_lLE, pk_lEQ, lg_lt, lg_ge, lg_eq0, lg_le, lg_gt, lg_ltn, lg_gen, lg_eq0n, lg_len, lg_gtn, Nat.zero_le, Nat.not_lt_zero, not_false_eq_true, not_true_eq_false, true_and, and_true]; omega) | omega)) rfl
end Grow
