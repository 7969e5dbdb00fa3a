/-! The class's judge is the judge -/
theorem l_and1 {x : Nat} (h : x < 2 ^ 63) : lN x &&& lN 1 = lN (x % 2) := by
  apply Int64.toBitVec_inj.mp
  apply BitVec.eq_of_toNat_eq
  rw [Int64.toBitVec_and, BitVec.toNat_and, lN_tn (by omega), lN_tn (by omega), lN_tn (by omega)]
  exact Nat.and_two_pow_sub_one_eq_mod x 1
theorem l_and3 {x : Nat} (h : x < 2 ^ 63) : lN x &&& lN 3 = lN (x % 4) := by
  apply Int64.toBitVec_inj.mp
  apply BitVec.eq_of_toNat_eq
  rw [Int64.toBitVec_and, BitVec.toNat_and, lN_tn (by omega), lN_tn (by omega), lN_tn (by omega)]
  exact Nat.and_two_pow_sub_one_eq_mod x 2
theorem nI_big {m : Nat} (h1 : 2147483648 ≤ m) (h2 : m < 4294967296) : (nI m).toInt = (m : Int) - 4294967296 := by
  show (BitVec.ofNat 32 m).toInt = _
  rw [BitVec.toInt_eq_toNat_bmod, BitVec.toNat_ofNat, Nat.mod_eq_of_lt (by omega)]
  have e : (m : Int).bmod (2 ^ 32) = if (m : Int) % 4294967296 < 2147483648 then (m : Int) % 4294967296 else (m : Int) % 4294967296 - 4294967296 := rfl
  rw [e]
  split <;> omega
/-- where the list of a table stands, as a long -/
def lv (y : Nat → Nat) (p : Nat) : Int64 := (nI p).toInt64 - (nI (nb y 4 p)).toInt64
theorem lv_neg {y : Nat → Nat} {p : Nat} (hp : p ≤ 4000) (h : nb y 4 p < 2147483648 ∧ p < nb y 4 p) : lv y p < 0 := by
  unfold lv
  rw [nI_l (by omega), nI_l (by omega), Int64.lt_iff_toInt_lt, Int64.toInt_sub, pk_lT (by omega), pk_lT (by omega), Int.bmod_eq_of_le (by omega) (by omega)]
  show _ < (0 : Int)
  omega
theorem lv_pos {y : Nat → Nat} {p : Nat} (hy : ∀ k, y k < 256) (hp : p ≤ 4000) (h : ¬ (nb y 4 p < 2147483648 ∧ p < nb y 4 p)) : lv y p = lN (la y p) := by
  have b := nb_lt4 hy p
  unfold lv la
  by_cases q : nb y 4 p < 2147483648
  · rw [if_pos q, nI_l (by omega), nI_l (by omega), lN_sub (by omega)]
  · rw [if_neg q]
    apply Int64.toInt_inj.mp
    rw [Int64.toInt_sub, Int32.toInt_toInt64, Int32.toInt_toInt64, nI_big (by omega) b, nI_toInt (by omega), pk_lT (by omega), Int.bmod_eq_of_le (by omega) (by omega)]
    omega
theorem la_lt {y : Nat → Nat} {p : Nat} (hp : p ≤ 4000) : la y p < 2 ^ 32 + 4000 := by
  unfold la
  split <;> omega
section JByt
variable {h : XH} {b cl : Nat}
theorem e_b_behind {q : Nat} (B : BY h b cl) (hq : q + 4 ≤ 4000) : f_b_behind b (nI q) h = some (nI (q + nb (cb h cl) 4 q), h) := by
  have e := e_b_number B (k := 4) (by decide) hq
  unfold f_b_behind
  rw [if_pos ⟨B.1, B.2.1⟩, n_4, e]
  simp (maxSteps := 4000000) (disch := omega) only [eq_self, Classical.not_not, Option.bind_some, Option.elim_some, Option.elim_none, true_and, and_true, and_self, false_and, and_false, true_or, or_true, or_false, false_or, not_true_eq_false, not_false_eq_true, ↓reduceIte, Nat.reduceEqDiff, ne_eq, nI_ltI, nI_leI, nI_eq, nI_clamp, nI_add, pk_sub, pk_mul, nI_ne1, ne1_nI, nI_pge, nI_nlt0, nI_l, lN_i, lN_add, lN_mul, lN_sub, pk_lLT, pk_lLE, pk_lEQ, lg_lt, lg_ge, lg_eq0, lg_le, lg_gt, lg_ltn, lg_gen, lg_eq0n, lg_len, lg_gtn, Nat.zero_le, Nat.not_lt_zero, not_false_eq_true, not_true_eq_false]
theorem e_b_listOf {p : Nat} (B : BY h b cl) (hq : p + 4 ≤ 4000) : f_b_listOf b (nI p) h = some (lv (cb h cl) p, h) := by
  have e := e_b_number B (k := 4) (by decide) hq
  unfold f_b_listOf
  rw [if_pos ⟨B.1, B.2.1⟩, n_4, e]
  simp only [eq_self, Classical.not_not, Option.bind_some, Option.elim_some, Option.elim_none, true_and, and_true, and_self, false_and, and_false, true_or, or_true, or_false, false_or, not_true_eq_false, not_false_eq_true, ↓reduceIte, Nat.reduceEqDiff, ne_eq, lN_i, lv]
theorem e_b_slotNumber {l s : Nat} (B : BY h b cl) (hl : l + 2 ≤ 4000) (hs : s ≤ 100) (hv : 6 + 2 * s ≤ nb (cb h cl) 2 l → l + 6 + 2 * s ≤ 4000) : f_b_slotNumber b (nI l) (nI s) h = some (nI (fr (cb h cl) l s), h) := by
  have e1 := e_b_number B (k := 2) (by decide) hl
  have b2 := nb_lt2 (cb_lt h cl) l
  unfold f_b_slotNumber fr
  by_cases q : nb (cb h cl) 2 l < 6 + 2 * s
  · have q2 : ¬ 4 + 2 * s + 2 ≤ nb (cb h cl) 2 l := by omega
    simp (maxSteps := 4000000) (disch := omega) only [B.1, B.2.1, eq_self, Classical.not_not, Option.bind_some, Option.elim_some, Option.elim_none, true_and, and_true, and_self, false_and, and_false, true_or, or_true, or_false, false_or, not_true_eq_false, not_false_eq_true, ↓reduceIte, Nat.reduceEqDiff, ne_eq, n_0, n_1, n_2, n_3, n_4, n_5, n_6, n_7, n_8, n_9, n_10, n_11, n_12, n_13, n_14, n_15, n_16, n_18, n_20, n_24, n_31, n_32, n_34, n_40, n_41, n_44, n_45, n_47, n_48, n_57, n_58, n_59, n_61, n_63, n_64, n_65, n_68, n_90, n_91, n_93, n_95, n_97, n_100, n_122, n_123, n_125, n_128, n_144, n_200, n_255, n_256, n_300, n_400, n_600, n_1536, n_3980, n_4000, n_4001, n_4300, n_65536, l_0, l_1, l_2, l_3, l_4, l_10, l_48, l_63, l_255, l_300, e1, nI_ltI, nI_leI, nI_eq, nI_clamp, nI_add, pk_sub, pk_mul, nI_ne1, ne1_nI, nI_pge, nI_nlt0, nI_l, lN_i, lN_add, lN_mul, lN_sub, pk_lLT, pk_lLE, pk_lEQ, lg_lt, lg_ge, lg_eq0, lg_le, lg_gt, lg_ltn, lg_gen, lg_eq0n, lg_len, lg_gtn, Nat.zero_le, Nat.not_lt_zero, not_false_eq_true, not_true_eq_false, q, q2]
  · have q2 : 4 + 2 * s + 2 ≤ nb (cb h cl) 2 l := by omega
    have e2 := e_b_number B (k := 2) (i := l + (4 + 2 * s)) (by decide) (by omega)
    rw [if_neg q, show l + 4 + 2 * s = l + (4 + 2 * s) by omega]
    simp (maxSteps := 4000000) (disch := omega) only [B.1, B.2.1, eq_self, Classical.not_not, Option.bind_some, Option.elim_some, Option.elim_none, true_and, and_true, and_self, false_and, and_false, true_or, or_true, or_false, false_or, not_true_eq_false, not_false_eq_true, ↓reduceIte, Nat.reduceEqDiff, ne_eq, n_0, n_1, n_2, n_3, n_4, n_5, n_6, n_7, n_8, n_9, n_10, n_11, n_12, n_13, n_14, n_15, n_16, n_18, n_20, n_24, n_31, n_32, n_34, n_40, n_41, n_44, n_45, n_47, n_48, n_57, n_58, n_59, n_61, n_63, n_64, n_65, n_68, n_90, n_91, n_93, n_95, n_97, n_100, n_122, n_123, n_125, n_128, n_144, n_200, n_255, n_256, n_300, n_400, n_600, n_1536, n_3980, n_4000, n_4001, n_4300, n_65536, l_0, l_1, l_2, l_3, l_4, l_10, l_48, l_63, l_255, l_300, e1, nI_ltI, nI_leI, nI_eq, nI_clamp, nI_add, pk_sub, pk_mul, nI_ne1, ne1_nI, nI_pge, nI_nlt0, nI_l, lN_i, lN_add, lN_mul, lN_sub, pk_lLT, pk_lLE, pk_lEQ, lg_lt, lg_ge, lg_eq0, lg_le, lg_gt, lg_ltn, lg_gen, lg_eq0n, lg_len, lg_gtn, Nat.zero_le, Nat.not_lt_zero, not_false_eq_true, not_true_eq_false, q2, e2]
end JByt
theorem e_t_isAligned {h : XH} {x a : Nat} (ha : a = 1 ∨ a = 2 ∨ a = 4 ∨ a = 8) (hx : x < 2 ^ 31) : f_t_isAligned (nI x) (nI a) h = some (if x % a = 0 then 1 else 0, h) := by
  unfold f_t_isAligned
  have e : nI x &&& (nI a - 1) = nI (x % a) := by
    rcases ha with e | e | e | e <;> subst e
    · exact pk_andN (m := nI 1 - 1) (by omega) 0 (by decide)
    · exact pk_andN (m := nI 2 - 1) (by omega) 1 (by decide)
    · exact pk_andN (m := nI 4 - 1) (by omega) 2 (by decide)
    · exact pk_andN (m := nI 8 - 1) (by omega) 3 (by decide)
  have l : x % a ≤ x := Nat.mod_le _ _
  rw [e]
  by_cases q : x % a = 0
  · rw [q, if_neg (not_not_intro nI_0), if_pos rfl]
  · rw [if_pos (nI_ne0 (by omega) (by omega)), if_neg q]
theorem e_d_leafPlace {h : XH} {a LN k : Nat} (D : DF h a 12 LN) (hk' : k < LN) : f_d_leafPlace a (nI k) h = some (hi h (a + 3 + 12) k, h) := by
  obtain ⟨d1, d2, d3, d4, d5, d6, d7, d8, d9, d10, d11, d12, d13, d14, d15⟩ := D
  have h1 : a < hz h := by omega
  have h2 : a + 3 + 12 < hz h := by omega
  have h4 : ¬ LN ≤ k := by omega
  have h6 : LN < 2 ^ 31 := by omega
  unfold f_d_leafPlace
  simp (maxSteps := 4000000) (disch := omega) only [h1, h2, h4, hk', h6, d5, d13, d14, d15, eq_self, Classical.not_not, Option.bind_some, Option.elim_some, Option.elim_none, true_and, and_true, and_self, false_and, and_false, true_or, or_true, or_false, false_or, not_true_eq_false, not_false_eq_true, ↓reduceIte, Nat.reduceEqDiff, ne_eq, nI_ltI, nI_leI, nI_eq, nI_clamp, nI_add, pk_sub, pk_mul, nI_ne1, ne1_nI, nI_pge, nI_nlt0, nI_l, lN_i, lN_add, lN_mul, lN_sub, pk_lLT, pk_lLE, pk_lEQ, lg_lt, lg_ge, lg_eq0, lg_le, lg_gt, lg_ltn, lg_gen, lg_eq0n, lg_len, lg_gtn, Nat.zero_le, Nat.not_lt_zero, not_false_eq_true, not_true_eq_false]
theorem e_d_leafScalar {h : XH} {a LN k : Nat} (D : DF h a 12 LN) (hk' : k < LN) : f_d_leafScalar a (nI k) h = some (hi h (a + 2 + 12) k, h) := by
  obtain ⟨d1, d2, d3, d4, d5, d6, d7, d8, d9, d10, d11, d12, d13, d14, d15⟩ := D
  have h1 : a < hz h := by omega
  have h2 : a + 2 + 12 < hz h := by omega
  have h4 : ¬ LN ≤ k := by omega
  have h6 : LN < 2 ^ 31 := by omega
  unfold f_d_leafScalar
  simp (maxSteps := 4000000) (disch := omega) only [h1, h2, h4, hk', h6, d5, d10, d11, d12, eq_self, Classical.not_not, Option.bind_some, Option.elim_some, Option.elim_none, true_and, and_true, and_self, false_and, and_false, true_or, or_true, or_false, false_or, not_true_eq_false, not_false_eq_true, ↓reduceIte, Nat.reduceEqDiff, ne_eq, nI_ltI, nI_leI, nI_eq, nI_clamp, nI_add, pk_sub, pk_mul, nI_ne1, ne1_nI, nI_pge, nI_nlt0, nI_l, lN_i, lN_add, lN_mul, lN_sub, pk_lLT, pk_lLE, pk_lEQ, lg_lt, lg_ge, lg_eq0, lg_le, lg_gt, lg_ltn, lg_gen, lg_eq0n, lg_len, lg_gtn, Nat.zero_le, Nat.not_lt_zero, not_false_eq_true, not_true_eq_false]
/-! the judge's object: what it says and how it stands behind a step -/
def jb (x : Nat) : Int32 := if x = 0 then 1 else 0
def jh (h : XH) (J : Nat) (x : J2) : XH := if x.1 = 0 then h else hsi (hsi h J 4 (nI x.1)) J 5 (nI x.2)
def jH (h : XH) (J : Nat) (x : J3) : XH := jh (hsi h J 3 (nI x.2.2)) J (x.1, x.2.1)
def JC (h : XH) (J S B c n : Nat) (y : Nat → Nat) (sg : SGT) (sd : Nat → Int64) : Prop := (1317 ≤ J ∧ J < hz h ∧ hk h J = 5 ∧ hr h J 0 = some S ∧ hr h J 1 = some B ∧ hi h J 2 = nI n ∧ n ≤ 4000) ∧ BY h B c ∧ (c < 1317 ∧ S + 616 ≤ 1317) ∧ cb h c = y ∧ CS h S sg sd
theorem CS.cg {h g : XH} {S : Nat} {sg : SGT} {sd : Nat → Int64} (C : CS h S sg sd) (W : WF sg sd) (hS : SC g S) (e : ∀ a, S ≤ a → a < S + 616 → hi g a = hi h a) (e2 : ∀ a, S ≤ a → a < S + 616 → hj g a = hj h a) : CS g S sg sd := by
  obtain ⟨c0, ⟨c1, c2, c3, c4⟩, c5, c6, c7⟩ := C
  obtain ⟨⟨w1, w2, w3, w4⟩, w5, w6, w7⟩ := W
  refine ⟨hS, ⟨by rw [e _ (by omega) (by omega)]; exact c1, by rw [e _ (by omega) (by omega)]; exact c2, by rw [e _ (by omega) (by omega)]; exact c3, by rw [e _ (by omega) (by omega)]; exact c4⟩, fun s hs => ?_, fun t ht => ?_, fun u hu => ?_⟩
  · have q := c5 s hs
    have w := (w5 s hs).1
    have d : dS S s = S + 1 + 2 + s * (12 + 4) := rfl
    rw [e (dS S s) (by omega) (by omega), e (dS S s + 2 + 12) (by omega) (by omega), e (dS S s + 3 + 12) (by omega) (by omega)]
    exact ⟨q.1, fun f hf => by rw [e (dS S s + 2 + f) (by omega) (by omega)]; exact q.2.1 f hf, q.2.2⟩
  · have q := c6 t ht
    have w := w6 t ht
    have d : dT S t = S + 195 + 2 + t * (16 + 4) := rfl
    rw [e (dT S t) (by omega) (by omega)]
    exact ⟨q.1, fun f hf => by rw [e (dT S t + 2 + f) (by omega) (by omega), e2 (dT S t + 2 + f) (by omega) (by omega)]; exact q.2 f hf⟩
  · have q := c7 u hu
    have w := w7 u hu
    have d : dU S u = S + 517 + 2 + u * (8 + 4) := rfl
    rw [e (dU S u) (by omega) (by omega)]
    exact ⟨q.1, fun f hf => by rw [e (dU S u + 2 + f) (by omega) (by omega)]; exact q.2 f hf⟩
theorem JC.si {h : XH} {J S B c n k : Nat} {v : Int32} {y : Nat → Nat} {sg : SGT} {sd : Nat → Int64} (C : JC h J S B c n y sg sd) (W : WF sg sd) (hk' : k ≠ 2) : JC (hsi h J k v) J S B c n y sg sd := by
  obtain ⟨⟨j1, j2, j3, j4, j5, j6, j7⟩, B, ⟨c1, c2⟩, e, C⟩ := C
  refine ⟨⟨j1, j2, j3, j4, j5, ?_, j7⟩, B, ⟨c1, c2⟩, ?_, C.cg W C.1 (fun a _ ha => hi_hsi_ne (by omega)) (fun a _ _ => rfl)⟩
  · rw [hi_hsi, if_neg (fun z => hk' z.2.symm)]; exact j6
  · rw [← e]; funext i; unfold cb; rw [hi_hsi_ne (by omega)]
theorem hsi_same {h : XH} {a k : Nat} {v : Int32} (e : hi h a k = v) : hsi h a k v = h := by
  have e2 : x2 h.2.2.2.2.1 a k v = h.2.2.2.2.1 := by
    funext b j
    unfold x2
    split
    · rename_i q
      rw [q.1, q.2]
      exact e.symm
    · rfl
  unfold hsi
  rw [e2]
theorem hsi_hsi {h : XH} {a k : Nat} {v w : Int32} : hsi (hsi h a k v) a k w = hsi h a k w := by
  rw [hsi_row, hsi_row, hsi_row, hri_hri, hi_hri_eq]
  congr 1
  funext j
  unfold upd
  split <;> rfl
