/-! Bytes.number: the bytes from the last one on -/
def numD (g : Nat → Int32) (i0 : Nat) : Nat → Int64 → Int64
  | 0, v => v
  | m + 1, v => numD g i0 m ((v <<< ((8 : Int32).toInt64 &&& 63)) ||| (g (i0 + m)).toInt64)
/-- the number of k bytes from place i0 on, the lowest first -/
def numB (g : Nat → Int32) (i0 k : Nat) : Int64 := numD g i0 k 0
theorem nI_m1 (n : Nat) (h0 : 0 < n) : nI n - 1 = nI (n - 1) := by
  obtain ⟨k, rfl⟩ : ∃ k, n = k + 1 := ⟨n - 1, by omega⟩
  exact nI_pred k
theorem nI_m1_lt {n : Nat} (h : n < 2 ^ 31) : nI n + (-1) < nI n := by
  rw [Int32.lt_iff_toInt_lt]
  rcases Nat.eq_zero_or_pos n with e | e
  · subst e; decide
  · rw [sb_m1 e, nI_toInt h, nI_toInt (by omega)]; omega
theorem not_lt_nI {a b : Nat} (h : b ≤ a) (hb : a < 2 ^ 31) : ¬ nI a < nI b := nI_nlt h hb
set_option maxRecDepth 20000 in
theorem k_number_loop {l : Launch} {G : XG} {h : XH} {b cl d i0 : Nat} {bb : Int32} (B : BY h b cl) : ∀ (m : Nat) (v : Int64), i0 + m ≤ 4000 → XR l G xEX1_number d (26, [some (.ref b), some (.int (nI i0)), some (.int bb), some (.long v), none, some (.int (nI (i0 + m) + (-1)))], [], h) (fun C => ∃ w, xRet xEX1_number C w ∧ h = C.2.2.2 ∧ w = some (.long (numD (o8 (hi h cl)) i0 m v))) := by
  obtain ⟨hb, kb, rb, hcl, kcl, ncl, hm⟩ := B
  intro m
  induction m with
  | zero =>
    intro v hm1
    refine XS.go (s_iload rfl rfl) ?_
    refine XS.go (s_iloadn rfl rfl rfl) ?_
    refine XS.go (s_icmp_lt_t (tgt := 56) rfl rfl (show nI (i0 + 0) + (-1) < nI i0 by rw [Nat.add_zero]; exact nI_m1_lt (by omega))) ?_
    refine XS.go (s_lloadn rfl rfl rfl) ?_
    refine XR.retl rfl rfl (fun hret => ⟨_, hret, ?_⟩)
    exact ⟨rfl, rfl⟩
  | succ m ih =>
    intro v hm1
    rw [show nI (i0 + (m + 1)) + (-1) = nI (i0 + m) from pk_m1 (i0 + m)]
    refine XS.go (s_iload rfl rfl) ?_
    refine XS.go (s_iloadn rfl rfl rfl) ?_
    refine XS.go (s_icmp_lt_f (tgt := 56) rfl rfl (not_lt_nI (by omega) (by omega))) ?_
    refine XS.go (s_lloadn rfl rfl rfl) ?_
    refine XS.go (s_bipush (v := 8) rfl rfl) ?_
    refine XS.go (s_lshl rfl) ?_
    refine XS.go (s_aloadn rfl rfl rfl) ?_
    refine XS.go (s_getr rfl xf1_9 (by assumption) (by assumption) (by decide) rfl (by assumption)) ?_
    refine XS.go (s_iload rfl rfl) ?_
    refine XS.go (s_bald rfl (by assumption) (by assumption) (in_nI ncl (by omega) (by decide))) ?_
    rw [nI_clamp (by omega)]
    refine XS.go (s_sipush (v := 255) rfl rfl) ?_
    refine XS.go (s_iand rfl) ?_
    refine XS.go (s_i2l rfl) ?_
    refine XS.go (s_lor rfl) ?_
    refine XS.go (s_lstoren rfl rfl (Nat.le_of_ble_eq_true rfl)) ?_
    refine XS.go (s_dec rfl rfl (Nat.le_of_ble_eq_true rfl)) ?_
    refine XS.go (s_goto (tgt := 26) rfl rfl) ?_
    exact ih _ (by omega)
set_option maxRecDepth 20000 in
theorem k_number {l : Launch} {G : XG} {h : XH} {b cl d i0 k : Nat} (B : BY h b cl) (hik : i0 + k ≤ 4000) : XC l G xEX1_number d [.ref b, .int (nI i0), .int (nI k)] h (fun v h2 => h = h2 ∧ v = some (.long (numB (o8 (hi h cl)) i0 k))) := by
  have B9 := B
  obtain ⟨hb, kb, rb, hcl, kcl, ncl, hm⟩ := B
  refine XC.virt xvX1_number (Nat.le_of_ble_eq_true rfl) ?_
  refine XS.go (s_iloadn rfl rfl rfl) ?_
  refine XS.go (s_if_lt_f (tgt := 15) rfl rfl (nI_pos (by omega))) ?_
  refine XS.go (s_iloadn rfl rfl rfl) ?_
  refine XS.go (s_aloadn rfl rfl rfl) ?_
  refine XS.go (s_getr rfl xf1_9 (by assumption) (by assumption) (by decide) rfl (by assumption)) ?_
  refine XS.go (s_alen rfl (by assumption) (by rw [kcl]; decide)) ?_
  refine XS.go (s_iloadn rfl rfl rfl) ?_
  refine XS.go (s_isub rfl) ?_
  refine XS.go (s_icmp_le_t (tgt := 17) rfl rfl (show nI i0 ≤ nI (hn h cl) - nI k by rw [ncl, pk_sub (by omega)]; exact nI_le (by omega) (by omega))) ?_
  refine XS.go (s_lconst (v := 0) rfl rfl) ?_
  refine XS.go (s_lstoren rfl rfl (Nat.le_of_ble_eq_true rfl)) ?_
  refine XS.go (s_iloadn rfl rfl rfl) ?_
  refine XS.go (s_iloadn rfl rfl rfl) ?_
  refine XS.go (s_iadd rfl) ?_
  refine XS.go (s_iconst (v := 1) rfl rfl) ?_
  refine XS.go (s_isub rfl) ?_
  rw [show nI i0 + nI k - 1 = nI (i0 + k) + (-1) by rw [nI_add, Int32.sub_eq_add_neg]]
  refine XS.go (s_istore rfl (Nat.le_of_ble_eq_true rfl)) ?_
  exact (k_number_loop B9 k 0 hik).mono fun C hC => by
    obtain ⟨w, h1, h2, h3⟩ := hC
    exact ⟨w, h1, h2, h3⟩
/-- k bytes of v from place i0 on -/
def putD (v : Int64) (i0 : Nat) : Nat → (Nat → Int32) → Nat → Int32
  | 0, f => f
  | m + 1, f => upd (putD v i0 m f) (i0 + m) (vp_nar .byte ((v.toUInt64 >>> ((8 * nI m).toInt64.toUInt64 &&& Int64.toUInt64 63)).toInt64.toInt32))
set_option maxRecDepth 20000 in
theorem k_putNumber_loop {l : Launch} {G : XG} {h : XH} {b cl d i0 k : Nat} {v : Int64} (B : BY h b cl) (hik : i0 + k ≤ 4000) : ∀ (n m : Nat), m + n = k → XR l G xEX1_putNumber (d + 1) (3, [some (.ref b), some (.int (nI i0)), some (.int (nI k)), some (.long v), none, some (.int (nI m))], [], hri h cl (putD v i0 m (hi h cl))) (fun C => ∃ w, xRet xEX1_putNumber C w ∧ C.2.2.2 = hri h cl (putD v i0 k (hi h cl)) ∧ w = none) := by
  have B9 := B
  obtain ⟨hb, kb, rb, hcl, kcl, ncl, hm⟩ := B
  intro n
  induction n with
  | zero =>
    intro m hmk
    have e : m = k := by omega
    subst e
    refine XS.go (s_iload rfl rfl) ?_
    refine XS.go (s_iloadn rfl rfl rfl) ?_
    refine XS.go (s_icmp_ge_t (tgt := 31) rfl rfl (nI_le (Nat.le_refl _) (by omega))) ?_
    refine XR.retv rfl rfl (fun hret => ⟨_, hret, ?_⟩)
    exact ⟨rfl, rfl⟩
  | succ n ih =>
    intro m hmk
    refine XS.go (s_iload rfl rfl) ?_
    refine XS.go (s_iloadn rfl rfl rfl) ?_
    refine XS.go (s_icmp_ge_f (tgt := 31) rfl rfl (nI_ge (by omega) (by omega))) ?_
    refine XS.go (s_aloadn rfl rfl rfl) ?_
    refine XS.go (s_iloadn rfl rfl rfl) ?_
    refine XS.go (s_iload rfl rfl) ?_
    refine XS.go (s_iadd rfl) ?_
    rw [nI_add]
    refine XS.go (s_lloadn rfl rfl rfl) ?_
    refine XS.go (s_bipush (v := 8) rfl rfl) ?_
    refine XS.go (s_iload rfl rfl) ?_
    refine XS.go (s_imul rfl) ?_
    refine XS.go (s_lushr rfl) ?_
    refine XS.go (s_l2i rfl) ?_
    refine r_callv rfl xvX1_putOctet xm1_23 (k_putOctet (cl := cl) (d := d) (show BY (hri h cl (putD v i0 m (hi h cl))) b cl from B9)) (by assumption) (by assumption) (by decide) rfl rfl (by omega) (by decide) (Nat.le_of_ble_eq_true rfl) ?_
    rintro _ _ ⟨rfl, rfl⟩
    rw [hri_hri, hi_hri_eq, putO_nI (by omega)]
    refine XS.go (s_inc rfl rfl (Nat.le_of_ble_eq_true rfl)) ?_
    refine XS.go (s_goto (tgt := 3) rfl rfl) ?_
    rw [nI_1]
    exact ih (m + 1) (by omega)
set_option maxRecDepth 20000 in
theorem k_putNumber {l : Launch} {G : XG} {h : XH} {b cl d i0 k : Nat} {v : Int64} (B : BY h b cl) (hik : i0 + k ≤ 4000) : XC l G xEX1_putNumber (d + 1) [.ref b, .int (nI i0), .int (nI k), .long v] h (fun w h2 => h2 = hri h cl (putD v i0 k (hi h cl)) ∧ w = none) := by
  refine XC.virt xvX1_putNumber (Nat.le_of_ble_eq_true rfl) ?_
  refine XS.go (s_iconst (v := 0) rfl rfl) ?_
  refine XS.go (s_istore rfl (Nat.le_of_ble_eq_true rfl)) ?_
  have z := k_putNumber_loop (l := l) (G := G) (d := d) (v := v) B hik k 0 (by omega)
  rw [show putD v i0 0 (hi h cl) = hi h cl from rfl, hri_self] at z
  exact z
