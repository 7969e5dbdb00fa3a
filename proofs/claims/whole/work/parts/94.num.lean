/-! Numbers: longs compared, ints and longs as naturals, bytes put together -/
theorem lg_v (a b : Int64) : (b.toInt < a.toInt ∧ lg_cmp a b = 1) ∨ (a.toInt = b.toInt ∧ lg_cmp a b = 0) ∨ (a.toInt < b.toInt ∧ lg_cmp a b = -1) := by
  unfold lg_cmp
  by_cases q : a > b
  · exact Or.inl ⟨Int64.lt_iff_toInt_lt.mp q, if_pos q⟩
  · rw [if_neg q]
    by_cases r : a = b
    · exact Or.inr (Or.inl ⟨by rw [r], if_pos r⟩)
    · refine Or.inr (Or.inr ⟨?_, if_neg r⟩)
      have h1 : ¬ b.toInt < a.toInt := fun z => q (Int64.lt_iff_toInt_lt.mpr z)
      have h2 : ¬ a.toInt = b.toInt := fun z => r (Int64.toInt_inj.mp z)
      omega
theorem lg_lt {a b : Int64} : (lg_cmp a b < 0) = (a < b) := by
  rw [Int64.lt_iff_toInt_lt (x := a)]
  rcases lg_v a b with ⟨h, e⟩ | ⟨h, e⟩ | ⟨h, e⟩ <;> rw [e] <;> apply propext <;> constructor <;> intro z <;> first | omega | exact absurd z (by decide) | decide
theorem lg_ge {a b : Int64} : (0 ≤ lg_cmp a b) = (b ≤ a) := by
  rw [Int64.le_iff_toInt_le (x := b)]
  rcases lg_v a b with ⟨h, e⟩ | ⟨h, e⟩ | ⟨h, e⟩ <;> rw [e] <;> apply propext <;> constructor <;> intro z <;> first | omega | exact absurd z (by decide) | decide
theorem lg_eq0 {a b : Int64} : (lg_cmp a b = 0) = (a = b) := by
  rw [← Int64.toInt_inj (x := a)]
  rcases lg_v a b with ⟨h, e⟩ | ⟨h, e⟩ | ⟨h, e⟩ <;> rw [e] <;> apply propext <;> constructor <;> intro z <;> first | omega | exact absurd z (by decide) | decide
theorem lg_le {a b : Int64} : (lg_cmp a b ≤ 0) = (a ≤ b) := by
  rw [Int64.le_iff_toInt_le (x := a)]
  rcases lg_v a b with ⟨h, e⟩ | ⟨h, e⟩ | ⟨h, e⟩ <;> rw [e] <;> apply propext <;> constructor <;> intro z <;> first | omega | exact absurd z (by decide) | decide
theorem lg_gt {a b : Int64} : (0 < lg_cmp a b) = (b < a) := by
  rw [Int64.lt_iff_toInt_lt (x := b)]
  rcases lg_v a b with ⟨h, e⟩ | ⟨h, e⟩ | ⟨h, e⟩ <;> rw [e] <;> apply propext <;> constructor <;> intro z <;> first | omega | exact absurd z (by decide) | decide
theorem n_0 : (0 : Int32) = nI 0 := rfl
theorem n_1 : (1 : Int32) = nI 1 := rfl
theorem n_2 : (2 : Int32) = nI 2 := rfl
theorem n_3 : (3 : Int32) = nI 3 := rfl
theorem n_4 : (4 : Int32) = nI 4 := rfl
theorem n_5 : (5 : Int32) = nI 5 := rfl
theorem n_6 : (6 : Int32) = nI 6 := rfl
theorem n_7 : (7 : Int32) = nI 7 := rfl
theorem n_8 : (8 : Int32) = nI 8 := rfl
theorem n_9 : (9 : Int32) = nI 9 := rfl
theorem n_10 : (10 : Int32) = nI 10 := rfl
theorem n_11 : (11 : Int32) = nI 11 := rfl
theorem n_12 : (12 : Int32) = nI 12 := rfl
theorem n_13 : (13 : Int32) = nI 13 := rfl
theorem n_14 : (14 : Int32) = nI 14 := rfl
theorem n_15 : (15 : Int32) = nI 15 := rfl
theorem n_16 : (16 : Int32) = nI 16 := rfl
theorem n_18 : (18 : Int32) = nI 18 := rfl
theorem n_20 : (20 : Int32) = nI 20 := rfl
theorem n_24 : (24 : Int32) = nI 24 := rfl
theorem n_31 : (31 : Int32) = nI 31 := rfl
theorem n_32 : (32 : Int32) = nI 32 := rfl
theorem n_34 : (34 : Int32) = nI 34 := rfl
theorem n_40 : (40 : Int32) = nI 40 := rfl
theorem n_41 : (41 : Int32) = nI 41 := rfl
theorem n_44 : (44 : Int32) = nI 44 := rfl
theorem n_45 : (45 : Int32) = nI 45 := rfl
theorem n_47 : (47 : Int32) = nI 47 := rfl
theorem n_48 : (48 : Int32) = nI 48 := rfl
theorem n_57 : (57 : Int32) = nI 57 := rfl
theorem n_58 : (58 : Int32) = nI 58 := rfl
theorem n_59 : (59 : Int32) = nI 59 := rfl
theorem n_61 : (61 : Int32) = nI 61 := rfl
theorem n_63 : (63 : Int32) = nI 63 := rfl
theorem n_64 : (64 : Int32) = nI 64 := rfl
theorem n_65 : (65 : Int32) = nI 65 := rfl
theorem n_68 : (68 : Int32) = nI 68 := rfl
theorem n_90 : (90 : Int32) = nI 90 := rfl
theorem n_91 : (91 : Int32) = nI 91 := rfl
theorem n_93 : (93 : Int32) = nI 93 := rfl
theorem n_95 : (95 : Int32) = nI 95 := rfl
theorem n_97 : (97 : Int32) = nI 97 := rfl
theorem n_100 : (100 : Int32) = nI 100 := rfl
theorem n_122 : (122 : Int32) = nI 122 := rfl
theorem n_123 : (123 : Int32) = nI 123 := rfl
theorem n_125 : (125 : Int32) = nI 125 := rfl
theorem n_128 : (128 : Int32) = nI 128 := rfl
theorem n_144 : (144 : Int32) = nI 144 := rfl
theorem n_200 : (200 : Int32) = nI 200 := rfl
theorem n_255 : (255 : Int32) = nI 255 := rfl
theorem n_256 : (256 : Int32) = nI 256 := rfl
theorem n_300 : (300 : Int32) = nI 300 := rfl
theorem n_400 : (400 : Int32) = nI 400 := rfl
theorem n_600 : (600 : Int32) = nI 600 := rfl
theorem n_1536 : (1536 : Int32) = nI 1536 := rfl
theorem n_3980 : (3980 : Int32) = nI 3980 := rfl
theorem n_4000 : (4000 : Int32) = nI 4000 := rfl
theorem n_4001 : (4001 : Int32) = nI 4001 := rfl
theorem n_4300 : (4300 : Int32) = nI 4300 := rfl
theorem n_65536 : (65536 : Int32) = nI 65536 := rfl
theorem l_0 : (0 : Int64) = lN 0 := rfl
theorem l_1 : (1 : Int64) = lN 1 := rfl
theorem l_2 : (2 : Int64) = lN 2 := rfl
theorem l_3 : (3 : Int64) = lN 3 := rfl
theorem l_4 : (4 : Int64) = lN 4 := rfl
theorem l_10 : (10 : Int64) = lN 10 := rfl
theorem l_48 : (48 : Int64) = lN 48 := rfl
theorem l_63 : (63 : Int64) = lN 63 := rfl
theorem l_255 : (255 : Int64) = lN 255 := rfl
theorem l_300 : (300 : Int64) = lN 300 := rfl
theorem lg_ltn {a b : Int64} : (lg_cmp a b < nI 0) = (a < b) := lg_lt
theorem lg_gen {a b : Int64} : (nI 0 ≤ lg_cmp a b) = (b ≤ a) := lg_ge
theorem lg_eq0n {a b : Int64} : (lg_cmp a b = nI 0) = (a = b) := lg_eq0
theorem lg_len {a b : Int64} : (lg_cmp a b ≤ nI 0) = (a ≤ b) := lg_le
theorem lg_gtn {a b : Int64} : (nI 0 < lg_cmp a b) = (b < a) := lg_gt
theorem nI_ne1 {a : Nat} (ha : a < 2 ^ 31) : (nI a = -1) = False := eq_false fun z => absurd (show nI a < 0 from z ▸ by decide) (nI_pos ha)
theorem ne1_nI {a : Nat} (ha : a < 2 ^ 31) : (-1 = nI a) = False := eq_false fun z => absurd (show nI a < 0 from z ▸ by decide) (nI_pos ha)
theorem nI_pge {a : Nat} (ha : a < 2 ^ 31) : (0 ≤ nI a) = True := eq_true (nI_pos' ha)
theorem nI_nlt0 {a : Nat} (ha : a < 2 ^ 31) : (nI a < 0) = False := eq_false (nI_pos ha)
theorem i_m1 (x : Int32) : x + (-1) = x - 1 := (Int32.sub_eq_add_neg (a := x) (b := 1)).symm
theorem nI_m1lt {n : Nat} (h : n < 2 ^ 31) : nI n - 1 < nI n := by rw [← i_m1]; exact nI_m1_lt h
theorem lN_tn {n : Nat} (h : n < 2 ^ 64) : (lN n).toBitVec.toNat = n := Nat.mod_eq_of_lt h
theorem l_shl (a s : Int64) (k : Nat) (hs : (s.toBitVec.smod 64).toNat = k) : (a <<< s).toBitVec.toNat = a.toBitVec.toNat * 2 ^ k % 2 ^ 64 := by
  show (a.toBitVec <<< (s.toBitVec.smod 64).toNat).toNat = _
  rw [hs, BitVec.toNat_shiftLeft, Nat.shiftLeft_eq]
theorem lsh8 {a b : Nat} (ha : a < 2 ^ 56) (hb : b < 256) : (lN a <<< (lN 8 &&& lN 63)) ||| lN b = lN (b + 256 * a) := by
  apply Int64.toBitVec_inj.mp
  apply BitVec.eq_of_toNat_eq
  rw [Int64.toBitVec_or, BitVec.toNat_or, l_shl _ _ 8 (by decide), lN_tn (by omega), lN_tn (by omega), lN_tn (by omega), Nat.mod_eq_of_lt (by omega)]
  have e := Nat.shiftLeft_add_eq_or_of_lt (show b < 2 ^ 8 by omega) a
  rw [Nat.shiftLeft_eq] at e
  rw [← e]
  omega
/-- a byte of a row -/
def cb (h : XH) (c k : Nat) : Nat := (hi h c k &&& 255).toNatClampNeg
theorem cb_eq (h : XH) (c k : Nat) : hi h c k &&& 255 = nI (cb h c k) := by
  obtain ⟨j, hj, e⟩ := pk_andE (hi h c k) 8 (m := 255) (by decide)
  unfold cb
  rw [e, nI_clamp (by omega)]
theorem cb_eqN (h : XH) (c k : Nat) : hi h c k &&& nI 255 = nI (cb h c k) := cb_eq h c k
theorem cb_lt (h : XH) (c k : Nat) : cb h c k < 256 := by
  obtain ⟨j, hj, e⟩ := pk_andE (hi h c k) 8 (m := 255) (by decide)
  unfold cb
  rw [e, nI_clamp (by omega)]
  exact hj
/-- k bytes from a place on, the lowest first -/
def nb (f : Nat → Nat) : Nat → Nat → Nat
  | 0, _ => 0
  | k + 1, i => f i + 256 * nb f k (i + 1)
theorem nb_lt {f : Nat → Nat} (hf : ∀ k, f k < 256) : ∀ k i, nb f k i < 256 ^ k
  | 0, _ => Nat.zero_lt_one
  | k + 1, i => by
    have h1 := nb_lt hf k (i + 1)
    have h2 := hf i
    rw [Nat.pow_succ]
    unfold nb
    omega
theorem nb_lt2 {f : Nat → Nat} (hf : ∀ k, f k < 256) (i : Nat) : nb f 2 i < 65536 := nb_lt hf 2 i
theorem nb_lt4 {f : Nat → Nat} (hf : ∀ k, f k < 256) (i : Nat) : nb f 4 i < 4294967296 := nb_lt hf 4 i
theorem nb_lt8 {f : Nat → Nat} (hf : ∀ k, f k < 256) {k : Nat} (hk' : k ≤ 7) (i : Nat) : nb f k i < 2 ^ 56 := Nat.lt_of_lt_of_le (nb_lt hf k i) (Nat.le_trans (Nat.pow_le_pow_right (by decide) hk') (by decide))
theorem nb_congr {f g : Nat → Nat} : ∀ k i, (∀ j, i ≤ j → j < i + k → f j = g j) → nb f k i = nb g k i
  | 0, _, _ => rfl
  | k + 1, i, h => by
    unfold nb
    rw [h i (Nat.le_refl _) (by omega), nb_congr k (i + 1) (fun j a b => h j (by omega) (by omega))]
/-- it returns, with Q -/
def RET {α : Type} (x : Option (α × XH)) (Q : α → XH → Prop) : Prop := ∃ v h, x = some (v, h) ∧ Q v h
theorem fuel_pos {n m : Nat} (h : n < m) : ∃ f, m = f + 1 ∧ n ≤ f := ⟨m - 1, by omega, by omega⟩
/-! bytes of the class's rows -/
theorem e_b_octet {h : XH} {b cl i : Nat} (B : BY h b cl) (hi' : i < 4000) : f_b_octet b (nI i) h = some (nI (cb h cl i), h) := by
  obtain ⟨b1, b2, b3, b4, b5, b6, b7⟩ := B
  unfold f_b_octet
  simp (disch := omega) only [b1, b2, b3, b4, b5, b6, cb_eq, eq_self, Classical.not_not, Option.bind_some, Option.elim_some, Option.elim_none, true_and, and_true, and_self, false_and, and_false, true_or, or_true, or_false, false_or, not_true_eq_false, not_false_eq_true, ↓reduceIte, Nat.reduceEqDiff, ne_eq, nI_ltI, nI_leI, nI_eq, nI_clamp, nI_add, pk_sub, pk_mul, nI_ne1, ne1_nI, nI_pge, nI_nlt0, nI_l, lN_i, lN_add, lN_mul, lN_sub, pk_lLT, pk_lLE, pk_lEQ, lg_lt, lg_ge, lg_eq0, lg_le, lg_gt, lg_ltn, lg_gen, lg_eq0n, lg_len, lg_gtn, Nat.zero_le, Nat.not_lt_zero, Nat.not_le.mpr hi', hi']
  rfl
theorem e_b_number_loop {h : XH} {b cl i : Nat} (B : BY h b cl) : ∀ (m s fuel : Nat), m < fuel → m + s ≤ 8 → i + m + s ≤ 4000 → b_b_number_26 fuel b (nI i) (lN (nb (cb h cl) s (i + m))) (nI (i + m) - 1) h = some (lN (nb (cb h cl) (s + m) i), h) := by
  obtain ⟨b1, b2, b3, b4, b5, b6, b7⟩ := B
  intro m
  induction m with
  | zero =>
    intro s fuel hf hs hi'
    obtain ⟨f, rfl, hf2⟩ := fuel_pos hf
    show s_b_number_26 (b_b_number_26 f) _ _ _ _ _ = _
    unfold s_b_number_26
    rw [Nat.add_zero, if_pos (nI_m1lt (show i < 2 ^ 31 by omega))]
    rfl
  | succ m ih =>
    intro s fuel hf hs hi'
    obtain ⟨f, rfl, hf2⟩ := fuel_pos hf
    show s_b_number_26 (b_b_number_26 f) _ _ _ _ _ = _
    unfold s_b_number_26
    have e : nI (i + (m + 1)) - 1 = nI (i + m) := nI_pred _
    have h8 := nb_lt8 (cb_lt h cl) (show s ≤ 7 by omega) (i + (m + 1))
    have hc := cb_lt h cl (i + m)
    have hm : i + m < 4000 := by omega
    have hn1 : ¬ i + m < i := by omega
    rw [e]
    simp (disch := omega) only [b1, b2, b3, b4, b5, b6, cb_eq, eq_self, Classical.not_not, Option.bind_some, Option.elim_some, Option.elim_none, true_and, and_true, and_self, false_and, and_false, true_or, or_true, or_false, false_or, not_true_eq_false, not_false_eq_true, ↓reduceIte, Nat.reduceEqDiff, ne_eq, nI_ltI, nI_leI, nI_eq, nI_clamp, nI_add, pk_sub, pk_mul, nI_ne1, ne1_nI, nI_pge, nI_nlt0, nI_l, lN_i, lN_add, lN_mul, lN_sub, pk_lLT, pk_lLE, pk_lEQ, lg_lt, lg_ge, lg_eq0, lg_le, lg_gt, lg_ltn, lg_gen, lg_eq0n, lg_len, lg_gtn, Nat.zero_le, Nat.not_lt_zero, hm, hn1, i_m1]
    have ih2 := ih (s + 1) f (by omega) (by omega) (by omega)
    rw [show s + 1 + m = s + (m + 1) by omega] at ih2
    rw [← ih2]
    have e2 : (lN (nb (cb h cl) s (i + (m + 1))) <<< (lN 8 &&& lN 63)) ||| lN (cb h cl (i + m)) = lN (nb (cb h cl) (s + 1) (i + m)) := lsh8 h8 hc
    first | (rw [← e2]; rfl) | (rw [← e2, n_8, nI_l (by omega)]; rfl)
theorem e_b_number {h : XH} {b cl i k : Nat} (B : BY h b cl) (hk8 : k ≤ 8) (hik : i + k ≤ 4000) : f_b_number b (nI i) (nI k) h = some (lN (nb (cb h cl) k i), h) := by
  have lp := e_b_number_loop (i := i) B k 0 100000 (by omega) (by omega) (by omega)
  obtain ⟨b1, b2, b3, b4, b5, b6, b7⟩ := B
  unfold f_b_number
  have hm : i ≤ 4000 - k := by omega
  simp (disch := omega) only [b1, b2, b3, b4, b5, b6, eq_self, Classical.not_not, Option.bind_some, Option.elim_some, Option.elim_none, true_and, and_true, and_self, false_and, and_false, true_or, or_true, or_false, false_or, not_true_eq_false, not_false_eq_true, ↓reduceIte, Nat.reduceEqDiff, ne_eq, nI_ltI, nI_leI, nI_eq, nI_clamp, nI_add, pk_sub, pk_mul, nI_ne1, ne1_nI, nI_pge, nI_nlt0, nI_l, lN_i, lN_add, lN_mul, lN_sub, pk_lLT, pk_lLE, pk_lEQ, lg_lt, lg_ge, lg_eq0, lg_le, lg_gt, lg_ltn, lg_gen, lg_eq0n, lg_len, lg_gtn, Nat.zero_le, Nat.not_lt_zero, hm]
  rw [Nat.zero_add] at lp
  exact lp
