/-! Bytes.copy, hasZero, packed, behind, listOf, slotNumber, storedAt, scalar -/
def cpyD (g : Nat → Int32) (f0 t0 : Nat) : Nat → (Nat → Int32) → Nat → Int32
  | 0, f => f
  | m + 1, f => upd (cpyD g f0 t0 m f) (t0 + m) (vp_nar .byte (g (f0 + m)))
set_option maxRecDepth 20000 in
theorem k_copy_loop {l : Launch} {G : XG} {h : XH} {b cl b2 cl2 d f0 t0 k : Nat} (B : BY h b cl) (B2 : BY h b2 cl2) (hne : cl2 ≠ cl) (hf : f0 + k ≤ 4000) (ht : t0 + k ≤ 4000) : ∀ (n m : Nat), m + n = k → XR l G xEX1_copy (d + 1) (3, [some (.ref b), some (.ref b2), some (.int (nI f0)), some (.int (nI t0)), some (.int (nI k)), some (.int (nI m))], [], hri h cl (cpyD (o8 (hi h cl2)) f0 t0 m (hi h cl))) (fun C => ∃ w, xRet xEX1_copy C w ∧ C.2.2.2 = hri h cl (cpyD (o8 (hi h cl2)) f0 t0 k (hi h cl)) ∧ w = none) := by
  have B9 := B
  have B29 := B2
  obtain ⟨hb, kb, rb, hcl, kcl, ncl, hm⟩ := B
  obtain ⟨hb2, kb2, -⟩ := B2
  intro n
  induction n with
  | zero =>
    intro m hmk
    have e : m = k := by omega
    subst e
    refine XS.go (s_iload rfl rfl) ?_
    refine XS.go (s_iload rfl rfl) ?_
    refine XS.go (s_icmp_ge_t (tgt := 32) rfl rfl (nI_le (Nat.le_refl _) (by omega))) ?_
    refine XR.retv rfl rfl (fun hret => ⟨_, hret, ?_⟩)
    exact ⟨rfl, rfl⟩
  | succ n ih =>
    intro m hmk
    refine XS.go (s_iload rfl rfl) ?_
    refine XS.go (s_iload rfl rfl) ?_
    refine XS.go (s_icmp_ge_f (tgt := 32) rfl rfl (nI_ge (by omega) (by omega))) ?_
    refine XS.go (s_aloadn rfl rfl rfl) ?_
    refine XS.go (s_iloadn rfl rfl rfl) ?_
    refine XS.go (s_iload rfl rfl) ?_
    refine XS.go (s_iadd rfl) ?_
    rw [nI_add]
    refine XS.go (s_aloadn rfl rfl rfl) ?_
    refine XS.go (s_iloadn rfl rfl rfl) ?_
    refine XS.go (s_iload rfl rfl) ?_
    refine XS.go (s_iadd rfl) ?_
    rw [nI_add]
    refine r_callv rfl xvX1_octet xm1_19 (k_octet (cl := cl2) (d := d) (show BY (hri h cl _) b2 cl2 from B29)) (by assumption) (by assumption) (by decide) rfl rfl (by omega) (by decide) (Nat.le_of_ble_eq_true rfl) ?_
    rintro _ _ ⟨rfl, rfl⟩
    rw [hi_hri_ne hne, oct_nI (by omega)]
    refine r_callv rfl xvX1_putOctet xm1_23 (k_putOctet (cl := cl) (d := d) (show BY (hri h cl _) b cl from B9)) (by assumption) (by assumption) (by decide) rfl rfl (by omega) (by decide) (Nat.le_of_ble_eq_true rfl) ?_
    rintro _ _ ⟨rfl, rfl⟩
    rw [hri_hri, hi_hri_eq, putO_nI (by omega)]
    refine XS.go (s_inc rfl rfl (Nat.le_of_ble_eq_true rfl)) ?_
    refine XS.go (s_goto (tgt := 3) rfl rfl) ?_
    rw [nI_1]
    exact ih (m + 1) (by omega)
set_option maxRecDepth 20000 in
theorem k_copy {l : Launch} {G : XG} {h : XH} {b cl b2 cl2 d f0 t0 k : Nat} (B : BY h b cl) (B2 : BY h b2 cl2) (hne : cl2 ≠ cl) (hf : f0 + k ≤ 4000) (ht : t0 + k ≤ 4000) : XC l G xEX1_copy (d + 1) [.ref b, .ref b2, .int (nI f0), .int (nI t0), .int (nI k)] h (fun w h2 => h2 = hri h cl (cpyD (o8 (hi h cl2)) f0 t0 k (hi h cl)) ∧ w = none) := by
  refine XC.virt xvX1_copy (Nat.le_of_ble_eq_true rfl) ?_
  refine XS.go (s_iconst (v := 0) rfl rfl) ?_
  refine XS.go (s_istore rfl (Nat.le_of_ble_eq_true rfl)) ?_
  have z := k_copy_loop (l := l) (G := G) (d := d) B B2 hne hf ht k 0 (by omega)
  rw [show cpyD (o8 (hi h cl2)) f0 t0 0 (hi h cl) = hi h cl from rfl, hri_self] at z
  exact z
def anyF (g : Nat → Int32) : Nat → Nat → Bool
  | _, 0 => false
  | m, n + 1 => if g m = 0 then true else anyF g (m + 1) n
set_option maxRecDepth 20000 in
theorem k_hasZero_loop {l : Launch} {G : XG} {h : XH} {b cl d k : Nat} (B : BY h b cl) (hk' : k ≤ 4000) : ∀ (n m : Nat), m + n = k → XR l G xEX1_hasZero (d + 1) (2, [some (.ref b), some (.int (nI k)), some (.int (nI m))], [], h) (fun C => ∃ w, xRet xEX1_hasZero C w ∧ h = C.2.2.2 ∧ w = some (.int (if anyF (o8 (hi h cl)) m n = true then 1 else 0))) := by
  have B9 := B
  obtain ⟨hb, kb, rb, hcl, kcl, ncl, hm⟩ := B
  intro n
  induction n with
  | zero =>
    intro m hmk
    refine XS.go (s_iloadn rfl rfl rfl) ?_
    refine XS.go (s_iloadn rfl rfl rfl) ?_
    refine XS.go (s_icmp_ge_t (tgt := 23) rfl rfl (nI_le (by omega) (by omega))) ?_
    refine XS.go (s_iconst (v := 0) rfl rfl) ?_
    refine XR.retz rfl rfl (by decide) (fun hret => ⟨_, hret, ?_⟩)
    exact ⟨rfl, rfl⟩
  | succ n ih =>
    intro m hmk
    refine XS.go (s_iloadn rfl rfl rfl) ?_
    refine XS.go (s_iloadn rfl rfl rfl) ?_
    refine XS.go (s_icmp_ge_f (tgt := 23) rfl rfl (nI_ge (by omega) (by omega))) ?_
    refine XS.go (s_aloadn rfl rfl rfl) ?_
    refine XS.go (s_iloadn rfl rfl rfl) ?_
    refine r_callv rfl xvX1_octet xm1_19 (k_octet (cl := cl) (d := d) B9) (by assumption) (by assumption) (by decide) rfl rfl (by omega) (by decide) (Nat.le_of_ble_eq_true rfl) ?_
    rintro _ _ ⟨rfl, rfl⟩
    rw [oct_nI (by omega)]
    refine r_if_ne (tgt := 17) rfl rfl (fun qc12 => ?_) (fun qc12 => ?_)
    · skip
      refine XS.go (s_inc rfl rfl (Nat.le_of_ble_eq_true rfl)) ?_
      refine XS.go (s_goto (tgt := 2) rfl rfl) ?_
      rw [nI_1]
      refine (ih (m + 1) (by omega)).mono fun C hC => ?_
      obtain ⟨w, h1, h2, h3⟩ := hC
      refine ⟨w, h1, h2, ?_⟩
      rw [show anyF (o8 (hi h cl)) m (n + 1) = anyF (o8 (hi h cl)) (m + 1) n from if_neg qc12]
      exact h3
    · skip
      refine XS.go (s_iconst (v := 1) rfl rfl) ?_
      refine XR.retz rfl rfl (by decide) (fun hret => ⟨_, hret, ?_⟩)
      refine ⟨rfl, ?_⟩
      rw [show anyF (o8 (hi h cl)) m (n + 1) = true from if_pos (Classical.not_not.mp qc12)]
      rfl
set_option maxRecDepth 20000 in
theorem k_hasZero {l : Launch} {G : XG} {h : XH} {b cl d k : Nat} (B : BY h b cl) (hk1 : k ≤ 4000) : XC l G xEX1_hasZero (d + 1) [.ref b, .int (nI k)] h (fun w h2 => h = h2 ∧ w = some (.int (if anyF (o8 (hi h cl)) 0 k = true then 1 else 0))) := by
  refine XC.virt xvX1_hasZero (Nat.le_of_ble_eq_true rfl) ?_
  refine XS.go (s_iconst (v := 0) rfl rfl) ?_
  refine XS.go (s_istoren rfl rfl (Nat.le_of_ble_eq_true rfl)) ?_
  exact k_hasZero_loop (l := l) (G := G) (d := d) B hk1 k 0 (by omega)
def pkF (g : Nat → Int32) : Nat → Nat → Int64 → Int64
  | _, 0, v => v
  | i, n + 1, v => pkF g (i + 1) n ((v <<< ((8 : Int32).toInt64 &&& 63)) ||| (g i).toInt64)
/-- up to eight signs from a on, ahead of e -/
def pk8 (g : Nat → Int32) (a e : Nat) : Int64 := pkF g a (min (e - a) 8) 0
set_option maxRecDepth 20000 in
theorem k_packed_loop {l : Launch} {G : XG} {h : XH} {b cl d a e : Nat} (B : BY h b cl) (ha : a ≤ 5000) (he : e ≤ 4000) : ∀ (n i : Nat) (v : Int64), a ≤ i → n = min (e - i) (a + 8 - i) → i ≤ a + 8 → XR l G xEX1_packed (d + 1) (5, [some (.ref b), some (.int (nI a)), some (.int (nI e)), some (.long v), none, some (.int (nI i))], [], h) (fun C => ∃ w, xRet xEX1_packed C w ∧ h = C.2.2.2 ∧ w = some (.long (pkF (o8 (hi h cl)) i n v))) := by
  have B9 := B
  obtain ⟨hb, kb, rb, hcl, kcl, ncl, hm⟩ := B
  intro n
  induction n with
  | zero =>
    intro i v hai hn1 hi8
    rcases (show e ≤ i ∨ (i < e ∧ a + 8 ≤ i) by omega) with qe | ⟨qe, qa⟩
    · skip
      refine XS.go (s_iload rfl rfl) ?_
      refine XS.go (s_iloadn rfl rfl rfl) ?_
      refine XS.go (s_icmp_ge_t (tgt := 39) rfl rfl (nI_le qe (by omega))) ?_
      refine XS.go (s_lloadn rfl rfl rfl) ?_
      refine XR.retl rfl rfl (fun hret => ⟨_, hret, ?_⟩)
      exact ⟨rfl, rfl⟩
    · skip
      refine XS.go (s_iload rfl rfl) ?_
      refine XS.go (s_iloadn rfl rfl rfl) ?_
      refine XS.go (s_icmp_ge_f (tgt := 39) rfl rfl (nI_ge qe (by omega))) ?_
      refine XS.go (s_iload rfl rfl) ?_
      refine XS.go (s_iloadn rfl rfl rfl) ?_
      refine XS.go (s_bipush (v := 8) rfl rfl) ?_
      refine XS.go (s_iadd rfl) ?_
      refine XS.go (s_icmp_ge_t (tgt := 39) rfl rfl (show nI a + 8 ≤ nI i from (show nI a + 8 = nI (a + 8) from nI_add a 8) ▸ nI_le qa (by omega))) ?_
      refine XS.go (s_lloadn rfl rfl rfl) ?_
      refine XR.retl rfl rfl (fun hret => ⟨_, hret, ?_⟩)
      exact ⟨rfl, rfl⟩
  | succ n ih =>
    intro i v hai hn1 hi8
    have qe : i < e := by omega
    have qa : i < a + 8 := by omega
    refine XS.go (s_iload rfl rfl) ?_
    refine XS.go (s_iloadn rfl rfl rfl) ?_
    refine XS.go (s_icmp_ge_f (tgt := 39) rfl rfl (nI_ge qe (by omega))) ?_
    refine XS.go (s_iload rfl rfl) ?_
    refine XS.go (s_iloadn rfl rfl rfl) ?_
    refine XS.go (s_bipush (v := 8) rfl rfl) ?_
    refine XS.go (s_iadd rfl) ?_
    refine XS.go (s_icmp_ge_f (tgt := 39) rfl rfl (show ¬ nI a + 8 ≤ nI i from (show nI a + 8 = nI (a + 8) from nI_add a 8) ▸ nI_ge qa (by omega))) ?_
    refine XS.go (s_lloadn rfl rfl rfl) ?_
    refine XS.go (s_bipush (v := 8) rfl rfl) ?_
    refine XS.go (s_lshl rfl) ?_
    refine XS.go (s_aloadn rfl rfl rfl) ?_
    refine XS.go (s_iload rfl rfl) ?_
    refine r_callv rfl xvX1_octet xm1_19 (k_octet (cl := cl) (d := d) B9) (by assumption) (by assumption) (by decide) rfl rfl (by omega) (by decide) (Nat.le_of_ble_eq_true rfl) ?_
    rintro _ _ ⟨rfl, rfl⟩
    rw [oct_nI (by omega)]
    refine XS.go (s_i2l rfl) ?_
    refine XS.go (s_lor rfl) ?_
    refine XS.go (s_lstoren rfl rfl (Nat.le_of_ble_eq_true rfl)) ?_
    refine XS.go (s_inc rfl rfl (Nat.le_of_ble_eq_true rfl)) ?_
    refine XS.go (s_goto (tgt := 5) rfl rfl) ?_
    rw [nI_1]
    exact ih (i + 1) _ (by omega) (by omega) (by omega)
set_option maxRecDepth 20000 in
theorem k_packed {l : Launch} {G : XG} {h : XH} {b cl d a e : Nat} (B : BY h b cl) (ha : a ≤ 5000) (he : e ≤ 4000) : XC l G xEX1_packed (d + 1) [.ref b, .int (nI a), .int (nI e)] h (fun w h2 => h = h2 ∧ w = some (.long (pk8 (o8 (hi h cl)) a e))) := by
  refine XC.virt xvX1_packed (Nat.le_of_ble_eq_true rfl) ?_
  refine XS.go (s_lconst (v := 0) rfl rfl) ?_
  refine XS.go (s_lstoren rfl rfl (Nat.le_of_ble_eq_true rfl)) ?_
  refine XS.go (s_iloadn rfl rfl rfl) ?_
  refine XS.go (s_istore rfl (Nat.le_of_ble_eq_true rfl)) ?_
  exact k_packed_loop (l := l) (G := G) (d := d) B ha he (min (e - a) 8) a 0 (Nat.le_refl _) (by omega) (by omega)
def behB (g : Nat → Int32) (i0 : Nat) : Int32 := ((nI i0).toInt64 + numB g i0 4).toInt32
def lisB (g : Nat → Int32) (p : Nat) : Int64 := (nI p).toInt64 - (numB g p 4).toInt32.toInt64
set_option maxRecDepth 20000 in
theorem k_behind {l : Launch} {G : XG} {h : XH} {b cl d i0 : Nat} (B : BY h b cl) (hik : i0 + 4 ≤ 4000) : XC l G xEX1_behind (d + 1) [.ref b, .int (nI i0)] h (fun v h2 => h = h2 ∧ v = some (.int (behB (o8 (hi h cl)) i0))) := by
  have B9 := B
  obtain ⟨hb, kb, rb, hcl, kcl, ncl, hm⟩ := B
  refine XC.virt xvX1_behind (Nat.le_of_ble_eq_true rfl) ?_
  refine XS.go (s_iloadn rfl rfl rfl) ?_
  refine XS.go (s_i2l rfl) ?_
  refine XS.go (s_aloadn rfl rfl rfl) ?_
  refine XS.go (s_iloadn rfl rfl rfl) ?_
  refine XS.go (s_iconst (v := 4) rfl rfl) ?_
  refine r_callv rfl xvX1_number xm1_30 (k_number (k := 4) (cl := cl) (d := d) B9 hik) (by assumption) (by assumption) (by decide) rfl rfl (by omega) (by decide) (Nat.le_of_ble_eq_true rfl) ?_
  rintro _ _ ⟨rfl, rfl⟩
  refine XS.go (s_ladd rfl) ?_
  refine XS.go (s_l2i rfl) ?_
  refine XR.reti rfl rfl (fun hret => ⟨_, hret, ?_⟩)
  exact ⟨rfl, rfl⟩
set_option maxRecDepth 20000 in
theorem k_listOf {l : Launch} {G : XG} {h : XH} {b cl d i0 : Nat} (B : BY h b cl) (hik : i0 + 4 ≤ 4000) : XC l G xEX1_listOf (d + 1) [.ref b, .int (nI i0)] h (fun v h2 => h = h2 ∧ v = some (.long (lisB (o8 (hi h cl)) i0))) := by
  have B9 := B
  obtain ⟨hb, kb, rb, hcl, kcl, ncl, hm⟩ := B
  refine XC.virt xvX1_listOf (Nat.le_of_ble_eq_true rfl) ?_
  refine XS.go (s_iloadn rfl rfl rfl) ?_
  refine XS.go (s_i2l rfl) ?_
  refine XS.go (s_aloadn rfl rfl rfl) ?_
  refine XS.go (s_iloadn rfl rfl rfl) ?_
  refine XS.go (s_iconst (v := 4) rfl rfl) ?_
  refine r_callv rfl xvX1_number xm1_30 (k_number (k := 4) (cl := cl) (d := d) B9 hik) (by assumption) (by assumption) (by decide) rfl rfl (by omega) (by decide) (Nat.le_of_ble_eq_true rfl) ?_
  rintro _ _ ⟨rfl, rfl⟩
  refine XS.go (s_l2i rfl) ?_
  refine XS.go (s_i2l rfl) ?_
  refine XS.go (s_lsub rfl) ?_
  refine XR.retl rfl rfl (fun hret => ⟨_, hret, ?_⟩)
  exact ⟨rfl, rfl⟩
/-- the number of slot s in the LIST at a: 0 if the LIST ends ahead of it -/
def sloB (g : Nat → Int32) (a s : Nat) : Int32 := if lN (6 + 2 * s) ≤ numB g a 2 then (numB g (a + (4 + 2 * s)) 2).toInt32 else 0
set_option maxRecDepth 20000 in
theorem k_slotNumber {l : Launch} {G : XG} {h : XH} {b cl d a s : Nat} (B : BY h b cl) (hs : s < 1000) (ha : a + 2 ≤ 4000) (hin : lN (6 + 2 * s) ≤ numB (o8 (hi h cl)) a 2 → a + (4 + 2 * s) + 2 ≤ 4000) : XC l G xEX1_slotNumber (d + 1) [.ref b, .int (nI a), .int (nI s)] h (fun v h2 => h = h2 ∧ v = some (.int (sloB (o8 (hi h cl)) a s))) := by
  have B9 := B
  obtain ⟨hb, kb, rb, hcl, kcl, ncl, hm⟩ := B
  refine XC.virt xvX1_slotNumber (Nat.le_of_ble_eq_true rfl) ?_
  refine XS.go (s_iconst (v := 4) rfl rfl) ?_
  refine XS.go (s_iconst (v := 2) rfl rfl) ?_
  refine XS.go (s_iloadn rfl rfl rfl) ?_
  refine XS.go (s_imul rfl) ?_
  refine XS.go (s_iadd rfl) ?_
  rw [show (4 : Int32) + 2 * nI s = nI (4 + 2 * s) from by rw [show (2 : Int32) = nI 2 from rfl, show (4 : Int32) = nI 4 from rfl, pk_mul, nI_add]]
  refine XS.go (s_istoren rfl rfl (Nat.le_of_ble_eq_true rfl)) ?_
  refine XS.go (s_iloadn rfl rfl rfl) ?_
  refine XS.go (s_iconst (v := 2) rfl rfl) ?_
  refine XS.go (s_iadd rfl) ?_
  refine XS.go (s_i2l rfl) ?_
  rw [show (nI (4 + 2 * s) + 2).toInt64 = lN (6 + 2 * s) from by rw [show (2 : Int32) = nI 2 from rfl, nI_add, nI_l (by omega), show 4 + 2 * s + 2 = 6 + 2 * s by omega]]
  refine XS.go (s_aloadn rfl rfl rfl) ?_
  refine XS.go (s_iloadn rfl rfl rfl) ?_
  refine XS.go (s_iconst (v := 2) rfl rfl) ?_
  refine r_callv rfl xvX1_number xm1_30 (k_number (k := 2) (cl := cl) (d := d) B9 ha) (by assumption) (by assumption) (by decide) rfl rfl (by omega) (by decide) (Nat.le_of_ble_eq_true rfl) ?_
  rintro _ _ ⟨rfl, rfl⟩
  refine XS.go (s_lcmp rfl) ?_
  refine r_if_le (tgt := 24) rfl rfl (fun qc17 => ?_) (fun qc17 => ?_)
  · skip
    refine XS.go (s_aloadn rfl rfl rfl) ?_
    refine XS.go (s_iloadn rfl rfl rfl) ?_
    refine XS.go (s_iloadn rfl rfl rfl) ?_
    refine XS.go (s_iadd rfl) ?_
    rw [nI_add]
    refine XS.go (s_iconst (v := 2) rfl rfl) ?_
    refine r_callv rfl xvX1_number xm1_30 (k_number (k := 2) (cl := cl) (d := d) B9 (hin ((lg_cmp_le _ _).mp qc17))) (by assumption) (by assumption) (by decide) rfl rfl (by omega) (by decide) (Nat.le_of_ble_eq_true rfl) ?_
    rintro _ _ ⟨rfl, rfl⟩
    refine XS.go (s_l2i rfl) ?_
    refine XR.reti rfl rfl (fun hret => ⟨_, hret, ?_⟩)
    refine ⟨rfl, ?_⟩
    simp only [sloB, if_pos ((lg_cmp_le _ _).mp qc17)]
  · skip
    refine XS.go (s_iconst (v := 0) rfl rfl) ?_
    refine XS.go (s_goto (tgt := 33) rfl rfl) ?_
    refine XR.reti rfl rfl (fun hret => ⟨_, hret, ?_⟩)
    refine ⟨rfl, ?_⟩
    simp only [sloB, if_neg fun z => qc17 ((lg_cmp_le _ _).mpr z)]
set_option maxRecDepth 20000 in
theorem k_storedAt {l : Launch} {G : XG} {h : XH} {b cl d p a s : Nat} (B : BY h b cl) (hs : s < 1000) (hp4 : p + 4 ≤ 4000) (hla : (lisB (o8 (hi h cl)) p).toInt32 = nI a) (ha : a + 2 ≤ 4000) (hin : lN (6 + 2 * s) ≤ numB (o8 (hi h cl)) a 2 → a + (4 + 2 * s) + 2 ≤ 4000) : XC l G xEX1_storedAt (d + 2) [.ref b, .int (nI p), .int (nI s)] h (fun v h2 => h = h2 ∧ v = some (.int (if sloB (o8 (hi h cl)) a s = 0 then -1 else nI p + sloB (o8 (hi h cl)) a s))) := by
  have B9 := B
  obtain ⟨hb, kb, rb, hcl, kcl, ncl, hm⟩ := B
  refine XC.virt xvX1_storedAt (Nat.le_of_ble_eq_true rfl) ?_
  refine XS.go (s_aloadn rfl rfl rfl) ?_
  refine XS.go (s_aloadn rfl rfl rfl) ?_
  refine XS.go (s_iloadn rfl rfl rfl) ?_
  refine r_callv rfl xvX1_listOf xm1_38 (k_listOf (cl := cl) (d := d) B9 hp4) (by assumption) (by assumption) (by decide) rfl rfl (by omega) (by decide) (Nat.le_of_ble_eq_true rfl) ?_
  rintro _ _ ⟨rfl, rfl⟩
  refine XS.go (s_l2i rfl) ?_
  rw [hla]
  refine XS.go (s_iloadn rfl rfl rfl) ?_
  refine r_callv rfl xvX1_slotNumber xm1_42 (k_slotNumber (cl := cl) (d := d) B9 hs ha hin) (by assumption) (by assumption) (by decide) rfl rfl (by omega) (by decide) (Nat.le_of_ble_eq_true rfl) ?_
  rintro _ _ ⟨rfl, rfl⟩
  refine XS.go (s_istoren rfl rfl (Nat.le_of_ble_eq_true rfl)) ?_
  refine XS.go (s_iloadn rfl rfl rfl) ?_
  refine r_if_ne (tgt := 20) rfl rfl (fun qc13 => ?_) (fun qc13 => ?_)
  · skip
    refine XS.go (s_iloadn rfl rfl rfl) ?_
    refine XS.go (s_iloadn rfl rfl rfl) ?_
    refine XS.go (s_iadd rfl) ?_
    refine XR.reti rfl rfl (fun hret => ⟨_, hret, ?_⟩)
    refine ⟨rfl, ?_⟩
    rw [if_neg qc13]
  · skip
    refine XS.go (s_iconst (v := (-1)) rfl rfl) ?_
    refine XS.go (s_goto (tgt := 23) rfl rfl) ?_
    refine XR.reti rfl rfl (fun hret => ⟨_, hret, ?_⟩)
    refine ⟨rfl, ?_⟩
    rw [if_pos (Classical.not_not.mp qc13)]
