/-! Bytes of ints and longs -/
def tn (x : Int32) : Nat := x.toBitVec.toNat
def tl (x : Int64) : Nat := x.toBitVec.toNat
/-- the j-th byte of a long -/
def v8 (x : Int64) (j : Nat) : Nat := tl x / 256 ^ j % 256
theorem tn_lt (x : Int32) : tn x < 4294967296 := x.toBitVec.isLt
theorem tl_lt (x : Int64) : tl x < 18446744073709551616 := x.toBitVec.isLt
theorem v8_lt (x : Int64) (j : Nat) : v8 x j < 256 := Nat.mod_lt _ (by decide)
theorem tn_int (x : Int32) : x.toInt = if tn x < 2147483648 then (tn x : Int) else (tn x : Int) - 4294967296 := by
  show x.toBitVec.toInt = _
  have := tn_lt x
  unfold tn at this ⊢
  rw [BitVec.toInt_eq_toNat_cond]
  split <;> split <;> omega
theorem tl_int (x : Int64) : x.toInt = if tl x < 9223372036854775808 then (tl x : Int) else (tl x : Int) - 18446744073709551616 := by
  show x.toBitVec.toInt = _
  have := tl_lt x
  unfold tl at this ⊢
  rw [BitVec.toInt_eq_toNat_cond]
  split <;> split <;> omega
theorem and255 (x : Int32) : x &&& 255 = nI (tn x % 256) := pk_and x 8 (m := 255) (by decide)
theorem and255l (x : Int64) : x &&& 255 = lN (tl x % 256) := by
  apply Int64.toBitVec_inj.mp
  apply BitVec.eq_of_toNat_eq
  rw [Int64.toBitVec_and, BitVec.toNat_and, lN_tn (Nat.lt_trans (Nat.mod_lt _ (by decide)) (by decide))]
  exact Nat.and_two_pow_sub_one_eq_mod _ 8
theorem i8_tn (z : Int32) : tn z.toInt8.toInt32 % 256 = tn z % 256 := by
  have h1 := tn_int z.toInt8.toInt32
  have h2 := tn_int z
  have h3 : z.toInt8.toInt32.toInt = z.toInt.bmod 256 := by rw [Int8.toInt_toInt32, Int32.toInt_toInt8]
  have h4 : z.toInt.bmod 256 = if z.toInt % 256 < 128 then z.toInt % 256 else z.toInt % 256 - 256 := rfl
  have l1 := tn_lt z
  have l2 := tn_lt z.toInt8.toInt32
  rw [h3, h4] at h1
  split at h1 <;> split at h1 <;> split at h2 <;> omega
/-- a byte that was put -/
theorem put255 (z : Int32) : vp_nar .byte z.toInt8.toInt32 &&& 255 = nI (tn z % 256) := by rw [pk_vb, and255, i8_tn]
theorem cb_put {h : XH} {c k : Nat} {z : Int32} : cb (hsi h c k (vp_nar .byte z.toInt8.toInt32)) c k = tn z % 256 := by
  unfold cb
  rw [hi_at, put255, nI_clamp (Nat.lt_trans (Nat.mod_lt _ (by decide)) (by decide))]
theorem cb_nk {h : XH} {a k c j : Nat} {v : Int32} (e : j ≠ k) : cb (hsi h a k v) c j = cb h c j := by unfold cb; rw [hi_nk e]
theorem cb_ne {h : XH} {a k c : Nat} {v : Int32} (e : c ≠ a) : cb (hsi h a k v) c = cb h c := by funext j; unfold cb; rw [hi_hsi_ne e]
/-- feed: a byte of an int -/
theorem f_ushr (x s : Int32) (k : Nat) (hs : ((s.toUInt32 &&& Int32.toUInt32 31).toBitVec % 32).toNat = k) : tn (x.toUInt32 >>> (s.toUInt32 &&& Int32.toUInt32 31)).toInt32 = tn x / 2 ^ k := pk_ushr x s k hs
theorem f_shr (x s : Int32) (k : Nat) (hs : (s.toBitVec.smod 32).toNat = k) (hk' : k = 0 ∨ k = 8 ∨ k = 16 ∨ k = 24) : (x >>> s) &&& 255 = nI (tn x / 2 ^ k % 256) := by
  rw [and255]
  have h1 := tn_int (x >>> s)
  have h2 := tn_int x
  have h3 := pk_shr x s k hs
  rw [Int.shiftRight_eq_div_pow] at h3
  have l1 := tn_lt x
  have l2 := tn_lt (x >>> s)
  congr 1
  rcases hk' with e | e | e | e <;> subst e
  · have h4 : (x >>> s).toInt = x.toInt / 1 := h3
    clear h3
    split at h1 <;> split at h2 <;> omega
  · have h4 : (x >>> s).toInt = x.toInt / 256 := h3
    clear h3
    split at h1 <;> split at h2 <;> omega
  · have h4 : (x >>> s).toInt = x.toInt / 65536 := h3
    clear h3
    split at h1 <;> split at h2 <;> omega
  · have h4 : (x >>> s).toInt = x.toInt / 16777216 := h3
    clear h3
    split at h1 <;> split at h2 <;> omega
theorem l_ushr (x s : Int64) (k : Nat) (hs : ((s.toUInt64 &&& Int64.toUInt64 63).toBitVec % 64).toNat = k) : tl (x.toUInt64 >>> (s.toUInt64 &&& Int64.toUInt64 63)).toInt64 = tl x / 2 ^ k := by
  show (x.toBitVec >>> ((s.toUInt64 &&& Int64.toUInt64 63).toBitVec % 64)).toNat = x.toBitVec.toNat / 2 ^ k
  rw [BitVec.ushiftRight_eq', hs, BitVec.toNat_ushiftRight, Nat.shiftRight_eq_div_pow]
theorem l_shr (x s : Int64) (k : Nat) (hs : (s.toBitVec.smod 64).toNat = k) : (x >>> s).toInt = x.toInt >>> k := by
  show (x.toBitVec.sshiftRight (s.toBitVec.smod 64).toNat).toInt = _
  rw [hs, BitVec.toInt_sshiftRight]
  rfl
theorem l_i32 (x : Int64) : tn x.toInt32 = tl x % 4294967296 := by
  have h1 := tn_int x.toInt32
  have h2 := tl_int x
  have h3 : x.toInt32.toInt = x.toInt.bmod 4294967296 := Int64.toInt_toInt32 x
  have h4 : x.toInt.bmod 4294967296 = if x.toInt % 4294967296 < 2147483648 then x.toInt % 4294967296 else x.toInt % 4294967296 - 4294967296 := rfl
  have l1 := tl_lt x
  have l2 := tn_lt x.toInt32
  rw [h3, h4] at h1
  split at h1 <;> split at h1 <;> split at h2 <;> omega
/-- byte j of a long, as the class puts it and as the model does -/
theorem c_byte (x : Int64) (j : Nat) (hj' : j < 8) : tn (((Int64.toUInt64 x) >>> ((Int32.toInt64 (8 * nI j)).toUInt64 &&& Int64.toUInt64 63)).toInt64).toInt32 % 256 = v8 x j := by
  rw [l_i32]
  have c : j = 0 ∨ j = 1 ∨ j = 2 ∨ j = 3 ∨ j = 4 ∨ j = 5 ∨ j = 6 ∨ j = 7 := by omega
  unfold v8
  rcases c with e | e | e | e | e | e | e | e <;> subst e
  · rw [l_ushr _ _ 0 (by decide)]; omega
  · rw [l_ushr _ _ 8 (by decide)]; omega
  · rw [l_ushr _ _ 16 (by decide)]; omega
  · rw [l_ushr _ _ 24 (by decide)]; omega
  · rw [l_ushr _ _ 32 (by decide)]; omega
  · rw [l_ushr _ _ 40 (by decide)]; omega
  · rw [l_ushr _ _ 48 (by decide)]; omega
  · rw [l_ushr _ _ 56 (by decide)]; omega
theorem m_byte (x : Int64) (j : Nat) (hj' : j < 8) : Int64.toInt32 ((x >>> ((Int32.toInt64 (8 * nI j)) &&& 63)) &&& 255) = nI (v8 x j) := by
  rw [and255l, lN_i]
  have l1 := tl_lt x
  have h2 := tl_int x
  have c : j = 0 ∨ j = 1 ∨ j = 2 ∨ j = 3 ∨ j = 4 ∨ j = 5 ∨ j = 6 ∨ j = 7 := by omega
  unfold v8
  congr 1
  have key : ∀ (s : Int64) (k : Nat), (s.toBitVec.smod 64).toNat = k → (k = 0 ∨ k = 8 ∨ k = 16 ∨ k = 24 ∨ k = 32 ∨ k = 40 ∨ k = 48 ∨ k = 56) → tl (x >>> s) % 256 = tl x / 2 ^ k % 256 := by
    intro s k hs hk'
    have h1 := tl_int (x >>> s)
    have h3 := l_shr x s k hs
    rw [Int.shiftRight_eq_div_pow] at h3
    have l2 := tl_lt (x >>> s)
    rcases hk' with e | e | e | e | e | e | e | e <;> subst e
    · have h4 : (x >>> s).toInt = x.toInt / 1 := h3
      clear h3
      split at h1 <;> split at h2 <;> omega
    · have h4 : (x >>> s).toInt = x.toInt / 256 := h3
      clear h3
      split at h1 <;> split at h2 <;> omega
    · have h4 : (x >>> s).toInt = x.toInt / 65536 := h3
      clear h3
      split at h1 <;> split at h2 <;> omega
    · have h4 : (x >>> s).toInt = x.toInt / 16777216 := h3
      clear h3
      split at h1 <;> split at h2 <;> omega
    · have h4 : (x >>> s).toInt = x.toInt / 4294967296 := h3
      clear h3
      split at h1 <;> split at h2 <;> omega
    · have h4 : (x >>> s).toInt = x.toInt / 1099511627776 := h3
      clear h3
      split at h1 <;> split at h2 <;> omega
    · have h4 : (x >>> s).toInt = x.toInt / 281474976710656 := h3
      clear h3
      split at h1 <;> split at h2 <;> omega
    · have h4 : (x >>> s).toInt = x.toInt / 72057594037927936 := h3
      clear h3
      split at h1 <;> split at h2 <;> omega
  rcases c with e | e | e | e | e | e | e | e <;> subst e
  · exact key _ 0 (by decide) (by decide)
  · exact key _ 8 (by decide) (by decide)
  · exact key _ 16 (by decide) (by decide)
  · exact key _ 24 (by decide) (by decide)
  · exact key _ 32 (by decide) (by decide)
  · exact key _ 40 (by decide) (by decide)
  · exact key _ 48 (by decide) (by decide)
  · exact key _ 56 (by decide) (by decide)
