/-! Bytes: a row of 4000 bytes -/
def BY (h : XH) (b cl : Nat) : Prop := b < hz h ∧ hk h b = 1 ∧ hr h b 0 = some cl ∧ cl < hz h ∧ hk h cl = 102 ∧ hn h cl = 4000 ∧ hz h ≤ 1000000
def oct (f : Nat → Int32) (i : Int32) : Int32 := if 0 ≤ i ∧ i < 4000 then f i.toNatClampNeg &&& 255 else 0
/-- octets of a row of bytes -/
def o8 (f : Nat → Int32) (k : Nat) : Int32 := f k &&& 255
theorem in_of {i : Int32} {n N : Nat} (hn' : n = N) (hN : N < 2 ^ 31) (h0 : ¬ i < 0) (h1 : ¬ nI N ≤ i) : vp_in i n := by
  subst hn'
  rw [vp_in_iff]
  have a : ¬ i.toInt < (0 : Int32).toInt := fun z => h0 (Int32.lt_iff_toInt_lt.mpr z)
  have b : ¬ (nI n).toInt ≤ i.toInt := fun z => h1 (Int32.le_iff_toInt_le.mpr z)
  rw [nI_toInt hN] at b
  have e0 : (0 : Int32).toInt = 0 := rfl
  rw [e0] at a
  omega
theorem oct_nI {f : Nat → Int32} {k : Nat} (hk' : k < 4000) : oct f (nI k) = o8 f k := by
  have z : 0 ≤ nI k ∧ nI k < 4000 := ⟨nI_pos' (by omega), (nI_lt (b := 4000) hk' (by decide))⟩
  unfold oct o8
  rw [if_pos z, nI_clamp (by omega)]
theorem in_nI {k n N : Nat} (hn' : n = N) (h : k < N) (hN : N < 2 ^ 31) : vp_in (nI k) n := by subst hn'; exact vp_in_nI h hN
set_option maxRecDepth 20000 in
theorem k_octet {l : Launch} {G : XG} {h : XH} {b cl d : Nat} {i : Int32} (B : BY h b cl) : XC l G xEX1_octet d [.ref b, .int i] h (fun v h2 => h = h2 ∧ v = some (.int (oct (hi h cl) i))) := by
  obtain ⟨hb, kb, rb, hcl, kcl, ncl, hm⟩ := B
  refine XC.virt xvX1_octet (Nat.le_of_ble_eq_true rfl) ?_
  refine XS.go (s_iloadn rfl rfl rfl) ?_
  refine r_if_lt (tgt := 26) rfl rfl (fun qc1 => ?_) (fun qc1 => ?_)
  · skip
    refine XS.go (s_iconst (v := 0) rfl rfl) ?_
    refine XR.reti rfl rfl (fun hret => ⟨_, hret, ?_⟩)
    refine ⟨rfl, ?_⟩
    have z : ¬ (0 ≤ i ∧ i < 4000) := fun z => absurd z.1 (Int32.not_le.mpr qc1)
    simp only [oct, if_neg z]
  · skip
    refine XS.go (s_iloadn rfl rfl rfl) ?_
    refine XS.go (s_aloadn rfl rfl rfl) ?_
    refine XS.go (s_getr rfl xf1_9 (by assumption) (by assumption) (by decide) rfl (by assumption)) ?_
    refine XS.go (s_alen rfl (by assumption) (by rw [kcl]; decide)) ?_
    refine r_icmp_ge (tgt := 26) rfl rfl (fun qc10 => ?_) (fun qc10 => ?_)
    · skip
      refine XS.go (s_iconst (v := 0) rfl rfl) ?_
      refine XR.reti rfl rfl (fun hret => ⟨_, hret, ?_⟩)
      refine ⟨rfl, ?_⟩
      have z : ¬ (0 ≤ i ∧ i < 4000) := fun z => absurd z.2 (Int32.not_lt.mpr (by rw [ncl] at qc10; exact qc10))
      simp only [oct, if_neg z]
    · skip
      refine XS.go (s_aloadn rfl rfl rfl) ?_
      refine XS.go (s_getr rfl xf1_9 (by assumption) (by assumption) (by decide) rfl (by assumption)) ?_
      refine XS.go (s_iloadn rfl rfl rfl) ?_
      refine XS.go (s_bald rfl (by assumption) (by assumption) (in_of (N := 4000) ncl (by decide) qc1 (by rw [← ncl]; exact qc10))) ?_
      refine XS.go (s_sipush (v := 255) rfl rfl) ?_
      refine XS.go (s_iand rfl) ?_
      refine XS.go (s_goto (tgt := 27) rfl rfl) ?_
      refine XR.reti rfl rfl (fun hret => ⟨_, hret, ?_⟩)
      refine ⟨rfl, ?_⟩
      have z : 0 ≤ i ∧ i < 4000 := ⟨Int32.not_lt.mp qc1, Int32.not_le.mp (by rw [ncl] at qc10; exact qc10)⟩
      simp only [oct, if_pos z]
set_option maxRecDepth 20000 in
theorem k_octetOrNone {l : Launch} {G : XG} {h : XH} {b cl d : Nat} {i : Int32} (B : BY h b cl) : XC l G xEX1_octetOrNone (d + 1) [.ref b, .int i] h (fun v h2 => h = h2 ∧ v = some (.int (if 0 ≤ i ∧ i < hi h b 1 then oct (hi h cl) i else -1))) := by
  have B9 := B
  obtain ⟨hb, kb, rb, hcl, kcl, ncl, hm⟩ := B
  refine XC.virt xvX1_octetOrNone (Nat.le_of_ble_eq_true rfl) ?_
  refine XS.go (s_iloadn rfl rfl rfl) ?_
  refine r_if_lt (tgt := 20) rfl rfl (fun qc1 => ?_) (fun qc1 => ?_)
  · skip
    refine XS.go (s_iconst (v := (-1)) rfl rfl) ?_
    refine XR.reti rfl rfl (fun hret => ⟨_, hret, ?_⟩)
    refine ⟨rfl, ?_⟩
    rw [if_neg fun z => absurd z.1 (Int32.not_le.mpr qc1)]
  · skip
    refine XS.go (s_iloadn rfl rfl rfl) ?_
    refine XS.go (s_aloadn rfl rfl rfl) ?_
    refine XS.go (s_geti rfl xf1_15 (by assumption) (by assumption) (by decide) rfl) ?_
    refine r_icmp_ge (tgt := 20) rfl rfl (fun qc9 => ?_) (fun qc9 => ?_)
    · skip
      refine XS.go (s_iconst (v := (-1)) rfl rfl) ?_
      refine XR.reti rfl rfl (fun hret => ⟨_, hret, ?_⟩)
      refine ⟨rfl, ?_⟩
      rw [if_neg fun z => absurd z.2 (Int32.not_lt.mpr qc9)]
    · skip
      refine XS.go (s_aloadn rfl rfl rfl) ?_
      refine XS.go (s_iloadn rfl rfl rfl) ?_
      refine r_callv rfl xvX1_octet xm1_19 (k_octet (d := d) B9) (by assumption) (by assumption) (by decide) rfl rfl (by omega) (by decide) (Nat.le_of_ble_eq_true rfl) ?_
      rintro _ _ ⟨rfl, rfl⟩
      refine XS.go (s_goto (tgt := 21) rfl rfl) ?_
      refine XR.reti rfl rfl (fun hret => ⟨_, hret, ?_⟩)
      refine ⟨rfl, ?_⟩
      rw [if_pos ⟨Int32.not_lt.mp qc1, Int32.not_le.mp qc9⟩]
def putO (f : Nat → Int32) (i x : Int32) : Nat → Int32 := if 0 ≤ i ∧ i < 4000 then upd f i.toNatClampNeg (vp_nar .byte x) else f
theorem putO_nI {f : Nat → Int32} {k : Nat} {x : Int32} (hk' : k < 4000) : putO f (nI k) x = upd f k (vp_nar .byte x) := by
  have z : 0 ≤ nI k ∧ nI k < 4000 := ⟨nI_pos' (by omega), (nI_lt (b := 4000) hk' (by decide))⟩
  unfold putO
  rw [if_pos z, nI_clamp (by omega)]
set_option maxRecDepth 20000 in
theorem k_putOctet {l : Launch} {G : XG} {h : XH} {b cl d : Nat} {i x : Int32} (B : BY h b cl) : XC l G xEX1_putOctet d [.ref b, .int i, .int x] h (fun v h2 => h2 = hri h cl (putO (hi h cl) i x) ∧ v = none) := by
  obtain ⟨hb, kb, rb, hcl, kcl, ncl, hm⟩ := B
  refine XC.virt xvX1_putOctet (Nat.le_of_ble_eq_true rfl) ?_
  refine XS.go (s_iloadn rfl rfl rfl) ?_
  refine r_if_lt (tgt := 21) rfl rfl (fun qc1 => ?_) (fun qc1 => ?_)
  · skip
    refine XR.retv rfl rfl (fun hret => ⟨_, hret, ?_⟩)
    refine ⟨?_, rfl⟩
    unfold putO
    rw [if_neg fun z => absurd z.1 (Int32.not_le.mpr qc1), hri_self]
  · skip
    refine XS.go (s_iloadn rfl rfl rfl) ?_
    refine XS.go (s_aloadn rfl rfl rfl) ?_
    refine XS.go (s_getr rfl xf1_9 (by assumption) (by assumption) (by decide) rfl (by assumption)) ?_
    refine XS.go (s_alen rfl (by assumption) (by rw [kcl]; decide)) ?_
    refine r_icmp_ge (tgt := 21) rfl rfl (fun qc10 => ?_) (fun qc10 => ?_)
    · skip
      refine XR.retv rfl rfl (fun hret => ⟨_, hret, ?_⟩)
      refine ⟨?_, rfl⟩
      unfold putO
      rw [if_neg fun z => absurd z.2 (Int32.not_lt.mpr (by rw [ncl] at qc10; exact qc10)), hri_self]
    · skip
      refine XS.go (s_aloadn rfl rfl rfl) ?_
      refine XS.go (s_getr rfl xf1_9 (by assumption) (by assumption) (by decide) rfl (by assumption)) ?_
      refine XS.go (s_iloadn rfl rfl rfl) ?_
      refine XS.go (s_iloadn rfl rfl rfl) ?_
      refine XS.go (s_i2b rfl) ?_
      refine XS.go (t_bast rfl (by assumption) (by assumption) (in_of (N := 4000) ncl (by decide) qc1 (by rw [← ncl]; exact qc10))) ?_
      refine XR.retv rfl rfl (fun hret => ⟨_, hret, ?_⟩)
      refine ⟨?_, rfl⟩
      unfold putO
      rw [if_pos ⟨Int32.not_lt.mp qc1, Int32.not_le.mp (by rw [ncl] at qc10; exact qc10)⟩]
      show hri h cl (upd (hi h cl) _ (vp_nar .byte _)) = _
      rw [pk_vb, vp_nar_byte]
