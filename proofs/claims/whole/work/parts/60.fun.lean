/-! Methods as functions of the heap -/
def f_m_empty (h : XH) : Option (Unit × XH) := (some ((), (hsi (hsi (hsi (hsi (hsi h 1262 57 0) 1262 58 4) 1262 59 0) 1262 64 0) 1262 67 (-1))))
set_option maxRecDepth 20000 in
theorem kf_m_empty {l : Launch} {G : XG} {d : Nat} {h : XH} {r : Unit × XH} (L0 : LY h) (hf : f_m_empty h = some r) : XC l G xEX12_empty d [.ref 1262] h (fun v h2 => (h2 = r.2 ∧ v = none) ∧ LY r.2) := by
  refine XC.virt xvX12_empty (Nat.le_of_ble_eq_true rfl) ?_
  unfold f_m_empty at hf
  refine XS.go (s_aloadn rfl rfl rfl) ?_
  refine XS.go (s_iconst (v := 0) rfl rfl) ?_
  refine XS.go (s_puti rfl xf12_382 (LY.lt L0 (by decide)) (LY.k1262 L0) (by decide) rfl (Or.inl rfl)) ?_
  refine XS.go (s_aloadn rfl rfl rfl) ?_
  refine XS.go (s_iconst (v := 4) rfl rfl) ?_
  refine XS.go (s_puti rfl xf12_385 (LY.lt (by simp only [LY_si, LY_sj]; exact L0) (by decide)) (LY.k1262 (by simp only [LY_si, LY_sj]; exact L0)) (by decide) rfl (Or.inl rfl)) ?_
  refine XS.go (s_aloadn rfl rfl rfl) ?_
  refine XS.go (s_iconst (v := 0) rfl rfl) ?_
  refine XS.go (s_puti rfl xf12_388 (LY.lt (by simp only [LY_si, LY_sj]; exact L0) (by decide)) (LY.k1262 (by simp only [LY_si, LY_sj]; exact L0)) (by decide) rfl (Or.inl rfl)) ?_
  refine XS.go (s_aloadn rfl rfl rfl) ?_
  refine XS.go (s_iconst (v := 0) rfl rfl) ?_
  refine XS.go (s_puti rfl xf12_391 (LY.lt (by simp only [LY_si, LY_sj]; exact L0) (by decide)) (LY.k1262 (by simp only [LY_si, LY_sj]; exact L0)) (by decide) rfl (Or.inl rfl)) ?_
  refine XS.go (s_aloadn rfl rfl rfl) ?_
  refine XS.go (s_iconst (v := (-1)) rfl rfl) ?_
  refine XS.go (s_puti rfl xf12_140 (LY.lt (by simp only [LY_si, LY_sj]; exact L0) (by decide)) (LY.k1262 (by simp only [LY_si, LY_sj]; exact L0)) (by decide) rfl (Or.inl rfl)) ?_
  cases hf
  exact XR.retv rfl rfl (fun hret => ⟨_, hret, ⟨rfl, rfl⟩, (by simp only [LY_si, LY_sj]; exact L0)⟩)
def f_m_fault (a0 : Int32) (h : XH) : Option (Int32 × XH) := (if ¬ a0 = 0 then (if ¬ a0 = 1 then (if ¬ a0 = 2 then (if ¬ a0 = 3 then (some ((-1), (hsi h 1262 0 0))) else (some ((hi h 1262 53), (hsi h 1262 0 0)))) else (some ((hi h 1262 52), (hsi h 1262 0 0)))) else (some ((hi h 1262 51), (hsi h 1262 0 0)))) else (some ((hi h 1262 50), (hsi h 1262 0 0))))
set_option maxRecDepth 20000 in
theorem kf_m_fault {l : Launch} {G : XG} {d : Nat} {a0 : Int32} {h : XH} {r : Int32 × XH} (L0 : LY h) (hf : f_m_fault a0 h = some r) : XC l G xEX12_fault d [.ref 1262, .int a0] h (fun v h2 => (h2 = r.2 ∧ v = some (.int r.1)) ∧ LY r.2) := by
  refine XC.virt xvX12_fault (Nat.le_of_ble_eq_true rfl) ?_
  unfold f_m_fault at hf
  refine XS.go (s_aloadn rfl rfl rfl) ?_
  refine XS.go (s_iconst (v := 0) rfl rfl) ?_
  refine XS.go (s_puti rfl xf12_175 (LY.lt L0 (by decide)) (LY.k1262 L0) (by decide) rfl (Or.inl rfl)) ?_
  refine XS.go (s_iloadn rfl rfl rfl) ?_
  refine r_if_ne (tgt := 16) rfl rfl (fun qc1 => ?_) (fun qc1 => ?_)
  · rw [if_pos qc1] at hf
    refine XS.go (s_iloadn rfl rfl rfl) ?_
    refine XS.go (s_iconst (v := 1) rfl rfl) ?_
    refine r_icmp_ne (tgt := 28) rfl rfl (fun qc2 => ?_) (fun qc2 => ?_)
    · rw [if_pos qc2] at hf
      refine XS.go (s_iloadn rfl rfl rfl) ?_
      refine XS.go (s_iconst (v := 2) rfl rfl) ?_
      refine r_icmp_ne (tgt := 40) rfl rfl (fun qc3 => ?_) (fun qc3 => ?_)
      · rw [if_pos qc3] at hf
        refine XS.go (s_iloadn rfl rfl rfl) ?_
        refine XS.go (s_iconst (v := 3) rfl rfl) ?_
        refine r_icmp_ne (tgt := 52) rfl rfl (fun qc4 => ?_) (fun qc4 => ?_)
        · rw [if_pos qc4] at hf
          refine XS.go (s_iconst (v := (-1)) rfl rfl) ?_
          cases hf
          exact XR.reti rfl rfl (fun hret => ⟨_, hret, ⟨rfl, rfl⟩, (by simp only [LY_si, LY_sj]; exact L0)⟩)
        · rw [if_neg qc4] at hf
          refine XS.go (s_aloadn rfl rfl rfl) ?_
          refine XS.go (s_getie rfl xf12_366 (LY.lt (by simp only [LY_si, LY_sj]; exact L0) (by decide)) (LY.k1262 (by simp only [LY_si, LY_sj]; exact L0)) (by decide) rfl (hi_hsi_nk (by decide))) ?_
          refine XS.go (s_goto (tgt := 53) rfl rfl) ?_
          cases hf
          exact XR.reti rfl rfl (fun hret => ⟨_, hret, ⟨rfl, rfl⟩, (by simp only [LY_si, LY_sj]; exact L0)⟩)
      · rw [if_neg qc3] at hf
        refine XS.go (s_aloadn rfl rfl rfl) ?_
        refine XS.go (s_getie rfl xf12_363 (LY.lt (by simp only [LY_si, LY_sj]; exact L0) (by decide)) (LY.k1262 (by simp only [LY_si, LY_sj]; exact L0)) (by decide) rfl (hi_hsi_nk (by decide))) ?_
        refine XS.go (s_goto (tgt := 53) rfl rfl) ?_
        cases hf
        exact XR.reti rfl rfl (fun hret => ⟨_, hret, ⟨rfl, rfl⟩, (by simp only [LY_si, LY_sj]; exact L0)⟩)
    · rw [if_neg qc2] at hf
      refine XS.go (s_aloadn rfl rfl rfl) ?_
      refine XS.go (s_getie rfl xf12_347 (LY.lt (by simp only [LY_si, LY_sj]; exact L0) (by decide)) (LY.k1262 (by simp only [LY_si, LY_sj]; exact L0)) (by decide) rfl (hi_hsi_nk (by decide))) ?_
      refine XS.go (s_goto (tgt := 53) rfl rfl) ?_
      cases hf
      exact XR.reti rfl rfl (fun hret => ⟨_, hret, ⟨rfl, rfl⟩, (by simp only [LY_si, LY_sj]; exact L0)⟩)
  · rw [if_neg qc1] at hf
    refine XS.go (s_aloadn rfl rfl rfl) ?_
    refine XS.go (s_getie rfl xf12_344 (LY.lt (by simp only [LY_si, LY_sj]; exact L0) (by decide)) (LY.k1262 (by simp only [LY_si, LY_sj]; exact L0)) (by decide) rfl (hi_hsi_nk (by decide))) ?_
    refine XS.go (s_goto (tgt := 53) rfl rfl) ?_
    cases hf
    exact XR.reti rfl rfl (fun hret => ⟨_, hret, ⟨rfl, rfl⟩, (by simp only [LY_si, LY_sj]; exact L0)⟩)
def f_m_isStruct (a0 : Int32) (h : XH) : Option (Int32 × XH) := (if (hi h 1262 7) = 0 then (some (0, h)) else (if a0 < 0 then (some (0, h)) else (if (hi h 1262 20) ≤ a0 then (some (0, h)) else (some (1, h)))))
set_option maxRecDepth 20000 in
theorem kf_m_isStruct {l : Launch} {G : XG} {d : Nat} {a0 : Int32} {h : XH} {r : Int32 × XH} (L0 : LY h) (hf : f_m_isStruct a0 h = some r) : XC l G xEX12_isStruct d [.ref 1262, .int a0] h (fun v h2 => (h2 = r.2 ∧ v = some (.int r.1)) ∧ LY r.2) := by
  refine XC.virt xvX12_isStruct (Nat.le_of_ble_eq_true rfl) ?_
  unfold f_m_isStruct at hf
  refine XS.go (s_aloadn rfl rfl rfl) ?_
  refine XS.go (s_getze rfl xf12_353 (LY.lt L0 (by decide)) (LY.k1262 L0) (by decide) rfl rfl) ?_
  refine r_if_eq (tgt := 23) rfl rfl (fun qc1 => ?_) (fun qc1 => ?_)
  · rw [if_pos qc1] at hf
    refine XS.go (s_iconst (v := 0) rfl rfl) ?_
    cases hf
    exact XR.retz rfl rfl (by decide) (fun hret => ⟨_, hret, ⟨rfl, rfl⟩, L0⟩)
  · rw [if_neg qc1] at hf
    refine XS.go (s_iloadn rfl rfl rfl) ?_
    refine r_if_lt (tgt := 23) rfl rfl (fun qc2 => ?_) (fun qc2 => ?_)
    · rw [if_pos qc2] at hf
      refine XS.go (s_iconst (v := 0) rfl rfl) ?_
      cases hf
      exact XR.retz rfl rfl (by decide) (fun hret => ⟨_, hret, ⟨rfl, rfl⟩, L0⟩)
    · rw [if_neg qc2] at hf
      refine XS.go (s_iloadn rfl rfl rfl) ?_
      refine XS.go (s_aloadn rfl rfl rfl) ?_
      refine XS.go (s_getie rfl xf12_254 (LY.lt L0 (by decide)) (LY.k1262 L0) (by decide) rfl rfl) ?_
      refine r_icmp_ge (tgt := 23) rfl rfl (fun qc3 => ?_) (fun qc3 => ?_)
      · rw [if_pos qc3] at hf
        refine XS.go (s_iconst (v := 0) rfl rfl) ?_
        cases hf
        exact XR.retz rfl rfl (by decide) (fun hret => ⟨_, hret, ⟨rfl, rfl⟩, L0⟩)
      · rw [if_neg qc3] at hf
        refine XS.go (s_iconst (v := 1) rfl rfl) ?_
        refine XS.go (s_goto (tgt := 24) rfl rfl) ?_
        cases hf
        exact XR.retz rfl rfl (by decide) (fun hret => ⟨_, hret, ⟨rfl, rfl⟩, L0⟩)
def f_m_isTable (a0 : Int32) (h : XH) : Option (Int32 × XH) := (if (hi h 1262 7) = 0 then (some (0, h)) else (if a0 < 0 then (some (0, h)) else (if (hi h 1262 31) ≤ a0 then (some (0, h)) else (some (1, h)))))
set_option maxRecDepth 20000 in
theorem kf_m_isTable {l : Launch} {G : XG} {d : Nat} {a0 : Int32} {h : XH} {r : Int32 × XH} (L0 : LY h) (hf : f_m_isTable a0 h = some r) : XC l G xEX12_isTable d [.ref 1262, .int a0] h (fun v h2 => (h2 = r.2 ∧ v = some (.int r.1)) ∧ LY r.2) := by
  refine XC.virt xvX12_isTable (Nat.le_of_ble_eq_true rfl) ?_
  unfold f_m_isTable at hf
  refine XS.go (s_aloadn rfl rfl rfl) ?_
  refine XS.go (s_getze rfl xf12_353 (LY.lt L0 (by decide)) (LY.k1262 L0) (by decide) rfl rfl) ?_
  refine r_if_eq (tgt := 23) rfl rfl (fun qc1 => ?_) (fun qc1 => ?_)
  · rw [if_pos qc1] at hf
    refine XS.go (s_iconst (v := 0) rfl rfl) ?_
    cases hf
    exact XR.retz rfl rfl (by decide) (fun hret => ⟨_, hret, ⟨rfl, rfl⟩, L0⟩)
  · rw [if_neg qc1] at hf
    refine XS.go (s_iloadn rfl rfl rfl) ?_
    refine r_if_lt (tgt := 23) rfl rfl (fun qc2 => ?_) (fun qc2 => ?_)
    · rw [if_pos qc2] at hf
      refine XS.go (s_iconst (v := 0) rfl rfl) ?_
      cases hf
      exact XR.retz rfl rfl (by decide) (fun hret => ⟨_, hret, ⟨rfl, rfl⟩, L0⟩)
    · rw [if_neg qc2] at hf
      refine XS.go (s_iloadn rfl rfl rfl) ?_
      refine XS.go (s_aloadn rfl rfl rfl) ?_
      refine XS.go (s_getie rfl xf12_257 (LY.lt L0 (by decide)) (LY.k1262 L0) (by decide) rfl rfl) ?_
      refine r_icmp_ge (tgt := 23) rfl rfl (fun qc3 => ?_) (fun qc3 => ?_)
      · rw [if_pos qc3] at hf
        refine XS.go (s_iconst (v := 0) rfl rfl) ?_
        cases hf
        exact XR.retz rfl rfl (by decide) (fun hret => ⟨_, hret, ⟨rfl, rfl⟩, L0⟩)
      · rw [if_neg qc3] at hf
        refine XS.go (s_iconst (v := 1) rfl rfl) ?_
        refine XS.go (s_goto (tgt := 24) rfl rfl) ?_
        cases hf
        exact XR.retz rfl rfl (by decide) (fun hret => ⟨_, hret, ⟨rfl, rfl⟩, L0⟩)
def f_m_size (a0 : Int32) (a1 : Int32) (h : XH) : Option (Int32 × XH) := (if a0 = 0 then (if (hi h 1262 7) = 0 then (some (0, (hsi h 1262 0 0))) else (some ((hi h 1262 20), (hsi h 1262 0 0)))) else (if a0 = 1 then (if (hi h 1262 7) = 0 then (some (0, (hsi h 1262 0 0))) else (some ((hi h 1262 31), (hsi h 1262 0 0)))) else (if a0 = 2 then (if (hi h 1262 7) = 0 then (some (0, (hsi h 1262 0 0))) else (some ((hi h 1262 41), (hsi h 1262 0 0)))) else (if a0 = 3 then (if (hi h 1262 7) = 0 then (some ((-1), (hsi h 1262 0 0))) else (some ((hi h 1262 45), (hsi h 1262 0 0)))) else (if a0 = 4 then (match f_m_isStruct a1 (hsi h 1262 0 0) with | none => none | some r6 => (if r6.1 = 0 then (some ((-1), r6.2)) else (if 0 ≤ a1 ∧ a1 < nI 12 then (some ((hi r6.2 1273 (Int32.toNatClampNeg a1)), r6.2)) else none))) else (if a0 = 5 then (match f_m_isStruct a1 (hsi h 1262 0 0) with | none => none | some r11 => (if r11.1 = 0 then (some ((-1), r11.2)) else (if 0 ≤ a1 ∧ a1 < nI 12 then (some ((hi r11.2 1274 (Int32.toNatClampNeg a1)), r11.2)) else none))) else (if a0 = 6 then (match f_m_isStruct a1 (hsi h 1262 0 0) with | none => none | some r16 => (if r16.1 = 0 then (some ((-1), r16.2)) else (if 0 ≤ a1 ∧ a1 < nI 12 then (some ((hi r16.2 1275 (Int32.toNatClampNeg a1)), r16.2)) else none))) else (if a0 = 7 then (match f_m_isTable a1 (hsi h 1262 0 0) with | none => none | some r21 => (if r21.1 = 0 then (some ((-1), r21.2)) else (if 0 ≤ a1 ∧ a1 < nI 16 then (some ((hi r21.2 1283 (Int32.toNatClampNeg a1)), r21.2)) else none))) else (if a0 = 8 then (match f_m_isTable a1 (hsi h 1262 0 0) with | none => none | some r26 => (if r26.1 = 0 then (some ((-1), r26.2)) else (if 0 ≤ a1 ∧ a1 < nI 16 then (some ((hi r26.2 1284 (Int32.toNatClampNeg a1)), r26.2)) else none))) else (if a0 = 9 then (if (hi h 1262 7) = 0 then (some ((-1), (hsi h 1262 0 0))) else (if a1 < 0 then (some ((-1), (hsi h 1262 0 0))) else (if (hi h 1262 41) ≤ a1 then (some ((-1), (hsi h 1262 0 0))) else (if 0 ≤ a1 ∧ a1 < nI 8 then (some ((hi h 1292 (Int32.toNatClampNeg a1)), (hsi h 1262 0 0))) else none)))) else (some ((-1), (hsi h 1262 0 0)))))))))))))
set_option maxRecDepth 20000 in
theorem kf_m_size {l : Launch} {G : XG} {d : Nat} {a0 : Int32} {a1 : Int32} {h : XH} {r : Int32 × XH} (L0 : LY h) (hf : f_m_size a0 a1 h = some r) : XC l G xEX12_size (d + 1) [.ref 1262, .int a0, .int a1] h (fun v h2 => (h2 = r.2 ∧ v = some (.int r.1)) ∧ LY r.2) := by
  refine XC.virt xvX12_size (Nat.le_of_ble_eq_true rfl) ?_
  unfold f_m_size at hf
  refine XS.go (s_aloadn rfl rfl rfl) ?_
  refine XS.go (s_iconst (v := 0) rfl rfl) ?_
  refine XS.go (s_puti rfl xf12_175 (LY.lt L0 (by decide)) (LY.k1262 L0) (by decide) rfl (Or.inl rfl)) ?_
  refine XS.go (s_iloadn rfl rfl rfl) ?_
  by_cases qs1_0 : a0 = 0
  · rw [if_pos qs1_0] at hf
    refine XS.go (s_tswI (tgt := 60) rfl (by rw [qs1_0]; decide) (by rw [qs1_0]; decide) (by rw [qs1_0]; rfl) rfl) ?_
    refine XS.go (s_aloadn rfl rfl rfl) ?_
    refine XS.go (s_getze rfl xf12_353 (LY.lt (by simp only [LY_si, LY_sj]; exact L0) (by decide)) (LY.k1262 (by simp only [LY_si, LY_sj]; exact L0)) (by decide) rfl (hi_hsi_nk (by decide))) ?_
    refine r_if_eq (tgt := 74) rfl rfl (fun qc2 => ?_) (fun qc2 => ?_)
    · rw [if_pos qc2] at hf
      refine XS.go (s_iconst (v := 0) rfl rfl) ?_
      cases hf
      exact XR.reti rfl rfl (fun hret => ⟨_, hret, ⟨rfl, rfl⟩, (by simp only [LY_si, LY_sj]; exact L0)⟩)
    · rw [if_neg qc2] at hf
      refine XS.go (s_aloadn rfl rfl rfl) ?_
      refine XS.go (s_getie rfl xf12_254 (LY.lt (by simp only [LY_si, LY_sj]; exact L0) (by decide)) (LY.k1262 (by simp only [LY_si, LY_sj]; exact L0)) (by decide) rfl (hi_hsi_nk (by decide))) ?_
      refine XS.go (s_goto (tgt := 75) rfl rfl) ?_
      cases hf
      exact XR.reti rfl rfl (fun hret => ⟨_, hret, ⟨rfl, rfl⟩, (by simp only [LY_si, LY_sj]; exact L0)⟩)
  rw [if_neg qs1_0] at hf
  by_cases qs1_1 : a0 = 1
  · rw [if_pos qs1_1] at hf
    refine XS.go (s_tswI (tgt := 76) rfl (by rw [qs1_1]; decide) (by rw [qs1_1]; decide) (by rw [qs1_1]; rfl) rfl) ?_
    refine XS.go (s_aloadn rfl rfl rfl) ?_
    refine XS.go (s_getze rfl xf12_353 (LY.lt (by simp only [LY_si, LY_sj]; exact L0) (by decide)) (LY.k1262 (by simp only [LY_si, LY_sj]; exact L0)) (by decide) rfl (hi_hsi_nk (by decide))) ?_
    refine r_if_eq (tgt := 90) rfl rfl (fun qc3 => ?_) (fun qc3 => ?_)
    · rw [if_pos qc3] at hf
      refine XS.go (s_iconst (v := 0) rfl rfl) ?_
      cases hf
      exact XR.reti rfl rfl (fun hret => ⟨_, hret, ⟨rfl, rfl⟩, (by simp only [LY_si, LY_sj]; exact L0)⟩)
    · rw [if_neg qc3] at hf
      refine XS.go (s_aloadn rfl rfl rfl) ?_
      refine XS.go (s_getie rfl xf12_257 (LY.lt (by simp only [LY_si, LY_sj]; exact L0) (by decide)) (LY.k1262 (by simp only [LY_si, LY_sj]; exact L0)) (by decide) rfl (hi_hsi_nk (by decide))) ?_
      refine XS.go (s_goto (tgt := 91) rfl rfl) ?_
      cases hf
      exact XR.reti rfl rfl (fun hret => ⟨_, hret, ⟨rfl, rfl⟩, (by simp only [LY_si, LY_sj]; exact L0)⟩)
  rw [if_neg qs1_1] at hf
  by_cases qs1_2 : a0 = 2
  · rw [if_pos qs1_2] at hf
    refine XS.go (s_tswI (tgt := 92) rfl (by rw [qs1_2]; decide) (by rw [qs1_2]; decide) (by rw [qs1_2]; rfl) rfl) ?_
    refine XS.go (s_aloadn rfl rfl rfl) ?_
    refine XS.go (s_getze rfl xf12_353 (LY.lt (by simp only [LY_si, LY_sj]; exact L0) (by decide)) (LY.k1262 (by simp only [LY_si, LY_sj]; exact L0)) (by decide) rfl (hi_hsi_nk (by decide))) ?_
    refine r_if_eq (tgt := 106) rfl rfl (fun qc4 => ?_) (fun qc4 => ?_)
    · rw [if_pos qc4] at hf
      refine XS.go (s_iconst (v := 0) rfl rfl) ?_
      cases hf
      exact XR.reti rfl rfl (fun hret => ⟨_, hret, ⟨rfl, rfl⟩, (by simp only [LY_si, LY_sj]; exact L0)⟩)
    · rw [if_neg qc4] at hf
      refine XS.go (s_aloadn rfl rfl rfl) ?_
      refine XS.go (s_getie rfl xf12_260 (LY.lt (by simp only [LY_si, LY_sj]; exact L0) (by decide)) (LY.k1262 (by simp only [LY_si, LY_sj]; exact L0)) (by decide) rfl (hi_hsi_nk (by decide))) ?_
      refine XS.go (s_goto (tgt := 107) rfl rfl) ?_
      cases hf
      exact XR.reti rfl rfl (fun hret => ⟨_, hret, ⟨rfl, rfl⟩, (by simp only [LY_si, LY_sj]; exact L0)⟩)
  rw [if_neg qs1_2] at hf
  by_cases qs1_3 : a0 = 3
  · rw [if_pos qs1_3] at hf
    refine XS.go (s_tswI (tgt := 108) rfl (by rw [qs1_3]; decide) (by rw [qs1_3]; decide) (by rw [qs1_3]; rfl) rfl) ?_
    refine XS.go (s_aloadn rfl rfl rfl) ?_
    refine XS.go (s_getze rfl xf12_353 (LY.lt (by simp only [LY_si, LY_sj]; exact L0) (by decide)) (LY.k1262 (by simp only [LY_si, LY_sj]; exact L0)) (by decide) rfl (hi_hsi_nk (by decide))) ?_
    refine r_if_eq (tgt := 122) rfl rfl (fun qc5 => ?_) (fun qc5 => ?_)
    · rw [if_pos qc5] at hf
      refine XS.go (s_iconst (v := (-1)) rfl rfl) ?_
      cases hf
      exact XR.reti rfl rfl (fun hret => ⟨_, hret, ⟨rfl, rfl⟩, (by simp only [LY_si, LY_sj]; exact L0)⟩)
    · rw [if_neg qc5] at hf
      refine XS.go (s_aloadn rfl rfl rfl) ?_
      refine XS.go (s_getie rfl xf12_338 (LY.lt (by simp only [LY_si, LY_sj]; exact L0) (by decide)) (LY.k1262 (by simp only [LY_si, LY_sj]; exact L0)) (by decide) rfl (hi_hsi_nk (by decide))) ?_
      refine XS.go (s_goto (tgt := 123) rfl rfl) ?_
      cases hf
      exact XR.reti rfl rfl (fun hret => ⟨_, hret, ⟨rfl, rfl⟩, (by simp only [LY_si, LY_sj]; exact L0)⟩)
  rw [if_neg qs1_3] at hf
  by_cases qs1_4 : a0 = 4
  · rw [if_pos qs1_4] at hf
    refine XS.go (s_tswI (tgt := 124) rfl (by rw [qs1_4]; decide) (by rw [qs1_4]; decide) (by rw [qs1_4]; rfl) rfl) ?_
    refine XS.go (s_aloadn rfl rfl rfl) ?_
    refine XS.go (s_iloadn rfl rfl rfl) ?_
    rcases e7 : f_m_isStruct a1 (hsi h 1262 0 0) with _ | r6
    · rw [e7] at hf; cases hf
    rw [e7] at hf; dsimp only at hf
    refine r_callv rfl xvX12_isStruct xm12_369 (kf_m_isStruct (d := d) (by simp only [LY_si, LY_sj]; exact L0) e7) (LY.lt (by simp only [LY_si, LY_sj]; exact L0) (by decide)) (LY.k1262 (by simp only [LY_si, LY_sj]; exact L0)) (by decide) rfl rfl (by omega) (by decide) (Nat.le_of_ble_eq_true rfl) ?_
    rintro _ _ ⟨⟨rfl, rfl⟩, L8⟩
    refine r_if_eq (tgt := 141) rfl rfl (fun qc9 => ?_) (fun qc9 => ?_)
    · rw [if_pos qc9] at hf
      refine XS.go (s_iconst (v := (-1)) rfl rfl) ?_
      cases hf
      exact XR.reti rfl rfl (fun hret => ⟨_, hret, ⟨rfl, rfl⟩, L8⟩)
    · rw [if_neg qc9] at hf
      refine XS.go (s_aloadn rfl rfl rfl) ?_
      refine XS.go (s_getr rfl xf12_40 (LY.lt L8 (by decide)) (LY.k1262 L8) (by decide) rfl (LY.r1262_21 L8)) ?_
      refine XS.go (s_iloadn rfl rfl rfl) ?_
      by_cases qk10 : 0 ≤ a1 ∧ a1 < nI 12
      rotate_left
      · rw [if_neg qk10] at hf; cases hf
      rw [if_pos qk10] at hf
      refine XS.go (s_ialde rfl (LY.lt L8 (by decide)) (LY.k1273 L8) (inLit (LY.n1273 L8) qk10.1 qk10.2 (by decide)) rfl) ?_
      refine XS.go (s_goto (tgt := 142) rfl rfl) ?_
      cases hf
      exact XR.reti rfl rfl (fun hret => ⟨_, hret, ⟨rfl, rfl⟩, L8⟩)
  rw [if_neg qs1_4] at hf
  by_cases qs1_5 : a0 = 5
  · rw [if_pos qs1_5] at hf
    refine XS.go (s_tswI (tgt := 143) rfl (by rw [qs1_5]; decide) (by rw [qs1_5]; decide) (by rw [qs1_5]; rfl) rfl) ?_
    refine XS.go (s_aloadn rfl rfl rfl) ?_
    refine XS.go (s_iloadn rfl rfl rfl) ?_
    rcases e12 : f_m_isStruct a1 (hsi h 1262 0 0) with _ | r11
    · rw [e12] at hf; cases hf
    rw [e12] at hf; dsimp only at hf
    refine r_callv rfl xvX12_isStruct xm12_369 (kf_m_isStruct (d := d) (by simp only [LY_si, LY_sj]; exact L0) e12) (LY.lt (by simp only [LY_si, LY_sj]; exact L0) (by decide)) (LY.k1262 (by simp only [LY_si, LY_sj]; exact L0)) (by decide) rfl rfl (by omega) (by decide) (Nat.le_of_ble_eq_true rfl) ?_
    rintro _ _ ⟨⟨rfl, rfl⟩, L13⟩
    refine r_if_eq (tgt := 160) rfl rfl (fun qc14 => ?_) (fun qc14 => ?_)
    · rw [if_pos qc14] at hf
      refine XS.go (s_iconst (v := (-1)) rfl rfl) ?_
      cases hf
      exact XR.reti rfl rfl (fun hret => ⟨_, hret, ⟨rfl, rfl⟩, L13⟩)
    · rw [if_neg qc14] at hf
      refine XS.go (s_aloadn rfl rfl rfl) ?_
      refine XS.go (s_getr rfl xf12_43 (LY.lt L13 (by decide)) (LY.k1262 L13) (by decide) rfl (LY.r1262_22 L13)) ?_
      refine XS.go (s_iloadn rfl rfl rfl) ?_
      by_cases qk15 : 0 ≤ a1 ∧ a1 < nI 12
      rotate_left
      · rw [if_neg qk15] at hf; cases hf
      rw [if_pos qk15] at hf
      refine XS.go (s_ialde rfl (LY.lt L13 (by decide)) (LY.k1274 L13) (inLit (LY.n1274 L13) qk15.1 qk15.2 (by decide)) rfl) ?_
      refine XS.go (s_goto (tgt := 161) rfl rfl) ?_
      cases hf
      exact XR.reti rfl rfl (fun hret => ⟨_, hret, ⟨rfl, rfl⟩, L13⟩)
  rw [if_neg qs1_5] at hf
  by_cases qs1_6 : a0 = 6
  · rw [if_pos qs1_6] at hf
    refine XS.go (s_tswI (tgt := 162) rfl (by rw [qs1_6]; decide) (by rw [qs1_6]; decide) (by rw [qs1_6]; rfl) rfl) ?_
    refine XS.go (s_aloadn rfl rfl rfl) ?_
    refine XS.go (s_iloadn rfl rfl rfl) ?_
    rcases e17 : f_m_isStruct a1 (hsi h 1262 0 0) with _ | r16
    · rw [e17] at hf; cases hf
    rw [e17] at hf; dsimp only at hf
    refine r_callv rfl xvX12_isStruct xm12_369 (kf_m_isStruct (d := d) (by simp only [LY_si, LY_sj]; exact L0) e17) (LY.lt (by simp only [LY_si, LY_sj]; exact L0) (by decide)) (LY.k1262 (by simp only [LY_si, LY_sj]; exact L0)) (by decide) rfl rfl (by omega) (by decide) (Nat.le_of_ble_eq_true rfl) ?_
    rintro _ _ ⟨⟨rfl, rfl⟩, L18⟩
    refine r_if_eq (tgt := 179) rfl rfl (fun qc19 => ?_) (fun qc19 => ?_)
    · rw [if_pos qc19] at hf
      refine XS.go (s_iconst (v := (-1)) rfl rfl) ?_
      cases hf
      exact XR.reti rfl rfl (fun hret => ⟨_, hret, ⟨rfl, rfl⟩, L18⟩)
    · rw [if_neg qc19] at hf
      refine XS.go (s_aloadn rfl rfl rfl) ?_
      refine XS.go (s_getr rfl xf12_46 (LY.lt L18 (by decide)) (LY.k1262 L18) (by decide) rfl (LY.r1262_23 L18)) ?_
      refine XS.go (s_iloadn rfl rfl rfl) ?_
      by_cases qk20 : 0 ≤ a1 ∧ a1 < nI 12
      rotate_left
      · rw [if_neg qk20] at hf; cases hf
      rw [if_pos qk20] at hf
      refine XS.go (s_ialde rfl (LY.lt L18 (by decide)) (LY.k1275 L18) (inLit (LY.n1275 L18) qk20.1 qk20.2 (by decide)) rfl) ?_
      refine XS.go (s_goto (tgt := 180) rfl rfl) ?_
      cases hf
      exact XR.reti rfl rfl (fun hret => ⟨_, hret, ⟨rfl, rfl⟩, L18⟩)
  rw [if_neg qs1_6] at hf
  by_cases qs1_7 : a0 = 7
  · rw [if_pos qs1_7] at hf
    refine XS.go (s_tswI (tgt := 181) rfl (by rw [qs1_7]; decide) (by rw [qs1_7]; decide) (by rw [qs1_7]; rfl) rfl) ?_
    refine XS.go (s_aloadn rfl rfl rfl) ?_
    refine XS.go (s_iloadn rfl rfl rfl) ?_
    rcases e22 : f_m_isTable a1 (hsi h 1262 0 0) with _ | r21
    · rw [e22] at hf; cases hf
    rw [e22] at hf; dsimp only at hf
    refine r_callv rfl xvX12_isTable xm12_372 (kf_m_isTable (d := d) (by simp only [LY_si, LY_sj]; exact L0) e22) (LY.lt (by simp only [LY_si, LY_sj]; exact L0) (by decide)) (LY.k1262 (by simp only [LY_si, LY_sj]; exact L0)) (by decide) rfl rfl (by omega) (by decide) (Nat.le_of_ble_eq_true rfl) ?_
    rintro _ _ ⟨⟨rfl, rfl⟩, L23⟩
    refine r_if_eq (tgt := 198) rfl rfl (fun qc24 => ?_) (fun qc24 => ?_)
    · rw [if_pos qc24] at hf
      refine XS.go (s_iconst (v := (-1)) rfl rfl) ?_
      cases hf
      exact XR.reti rfl rfl (fun hret => ⟨_, hret, ⟨rfl, rfl⟩, L23⟩)
    · rw [if_neg qc24] at hf
      refine XS.go (s_aloadn rfl rfl rfl) ?_
      refine XS.go (s_getr rfl xf12_70 (LY.lt L23 (by decide)) (LY.k1262 L23) (by decide) rfl (LY.r1262_32 L23)) ?_
      refine XS.go (s_iloadn rfl rfl rfl) ?_
      by_cases qk25 : 0 ≤ a1 ∧ a1 < nI 16
      rotate_left
      · rw [if_neg qk25] at hf; cases hf
      rw [if_pos qk25] at hf
      refine XS.go (s_ialde rfl (LY.lt L23 (by decide)) (LY.k1283 L23) (inLit (LY.n1283 L23) qk25.1 qk25.2 (by decide)) rfl) ?_
      refine XS.go (s_goto (tgt := 199) rfl rfl) ?_
      cases hf
      exact XR.reti rfl rfl (fun hret => ⟨_, hret, ⟨rfl, rfl⟩, L23⟩)
  rw [if_neg qs1_7] at hf
  by_cases qs1_8 : a0 = 8
  · rw [if_pos qs1_8] at hf
    refine XS.go (s_tswI (tgt := 200) rfl (by rw [qs1_8]; decide) (by rw [qs1_8]; decide) (by rw [qs1_8]; rfl) rfl) ?_
    refine XS.go (s_aloadn rfl rfl rfl) ?_
    refine XS.go (s_iloadn rfl rfl rfl) ?_
    rcases e27 : f_m_isTable a1 (hsi h 1262 0 0) with _ | r26
    · rw [e27] at hf; cases hf
    rw [e27] at hf; dsimp only at hf
    refine r_callv rfl xvX12_isTable xm12_372 (kf_m_isTable (d := d) (by simp only [LY_si, LY_sj]; exact L0) e27) (LY.lt (by simp only [LY_si, LY_sj]; exact L0) (by decide)) (LY.k1262 (by simp only [LY_si, LY_sj]; exact L0)) (by decide) rfl rfl (by omega) (by decide) (Nat.le_of_ble_eq_true rfl) ?_
    rintro _ _ ⟨⟨rfl, rfl⟩, L28⟩
    refine r_if_eq (tgt := 217) rfl rfl (fun qc29 => ?_) (fun qc29 => ?_)
    · rw [if_pos qc29] at hf
      refine XS.go (s_iconst (v := (-1)) rfl rfl) ?_
      cases hf
      exact XR.reti rfl rfl (fun hret => ⟨_, hret, ⟨rfl, rfl⟩, L28⟩)
    · rw [if_neg qc29] at hf
      refine XS.go (s_aloadn rfl rfl rfl) ?_
      refine XS.go (s_getr rfl xf12_73 (LY.lt L28 (by decide)) (LY.k1262 L28) (by decide) rfl (LY.r1262_33 L28)) ?_
      refine XS.go (s_iloadn rfl rfl rfl) ?_
      by_cases qk30 : 0 ≤ a1 ∧ a1 < nI 16
      rotate_left
      · rw [if_neg qk30] at hf; cases hf
      rw [if_pos qk30] at hf
      refine XS.go (s_ialde rfl (LY.lt L28 (by decide)) (LY.k1284 L28) (inLit (LY.n1284 L28) qk30.1 qk30.2 (by decide)) rfl) ?_
      refine XS.go (s_goto (tgt := 218) rfl rfl) ?_
      cases hf
      exact XR.reti rfl rfl (fun hret => ⟨_, hret, ⟨rfl, rfl⟩, L28⟩)
  rw [if_neg qs1_8] at hf
  by_cases qs1_9 : a0 = 9
  · rw [if_pos qs1_9] at hf
    refine XS.go (s_tswI (tgt := 219) rfl (by rw [qs1_9]; decide) (by rw [qs1_9]; decide) (by rw [qs1_9]; rfl) rfl) ?_
    refine XS.go (s_aloadn rfl rfl rfl) ?_
    refine XS.go (s_getze rfl xf12_353 (LY.lt (by simp only [LY_si, LY_sj]; exact L0) (by decide)) (LY.k1262 (by simp only [LY_si, LY_sj]; exact L0)) (by decide) rfl (hi_hsi_nk (by decide))) ?_
    refine r_if_eq (tgt := 247) rfl rfl (fun qc31 => ?_) (fun qc31 => ?_)
    · rw [if_pos qc31] at hf
      refine XS.go (s_iconst (v := (-1)) rfl rfl) ?_
      cases hf
      exact XR.reti rfl rfl (fun hret => ⟨_, hret, ⟨rfl, rfl⟩, (by simp only [LY_si, LY_sj]; exact L0)⟩)
    · rw [if_neg qc31] at hf
      refine XS.go (s_iloadn rfl rfl rfl) ?_
      refine r_if_lt (tgt := 247) rfl rfl (fun qc32 => ?_) (fun qc32 => ?_)
      · rw [if_pos qc32] at hf
        refine XS.go (s_iconst (v := (-1)) rfl rfl) ?_
        cases hf
        exact XR.reti rfl rfl (fun hret => ⟨_, hret, ⟨rfl, rfl⟩, (by simp only [LY_si, LY_sj]; exact L0)⟩)
      · rw [if_neg qc32] at hf
        refine XS.go (s_iloadn rfl rfl rfl) ?_
        refine XS.go (s_aloadn rfl rfl rfl) ?_
        refine XS.go (s_getie rfl xf12_260 (LY.lt (by simp only [LY_si, LY_sj]; exact L0) (by decide)) (LY.k1262 (by simp only [LY_si, LY_sj]; exact L0)) (by decide) rfl (hi_hsi_nk (by decide))) ?_
        refine r_icmp_ge (tgt := 247) rfl rfl (fun qc33 => ?_) (fun qc33 => ?_)
        · rw [if_pos qc33] at hf
          refine XS.go (s_iconst (v := (-1)) rfl rfl) ?_
          cases hf
          exact XR.reti rfl rfl (fun hret => ⟨_, hret, ⟨rfl, rfl⟩, (by simp only [LY_si, LY_sj]; exact L0)⟩)
        · rw [if_neg qc33] at hf
          refine XS.go (s_aloadn rfl rfl rfl) ?_
          refine XS.go (s_getr rfl xf12_98 (LY.lt (by simp only [LY_si, LY_sj]; exact L0) (by decide)) (LY.k1262 (by simp only [LY_si, LY_sj]; exact L0)) (by decide) rfl (LY.r1262_42 (by simp only [LY_si, LY_sj]; exact L0))) ?_
          refine XS.go (s_iloadn rfl rfl rfl) ?_
          by_cases qk34 : 0 ≤ a1 ∧ a1 < nI 8
          rotate_left
          · rw [if_neg qk34] at hf; cases hf
          rw [if_pos qk34] at hf
          refine XS.go (s_ialde rfl (LY.lt (by simp only [LY_si, LY_sj]; exact L0) (by decide)) (LY.k1292 (by simp only [LY_si, LY_sj]; exact L0)) (inLit (LY.n1292 (by simp only [LY_si, LY_sj]; exact L0)) qk34.1 qk34.2 (by decide)) (hi_hsi_na (by decide))) ?_
          refine XS.go (s_goto (tgt := 248) rfl rfl) ?_
          cases hf
          exact XR.reti rfl rfl (fun hret => ⟨_, hret, ⟨rfl, rfl⟩, (by simp only [LY_si, LY_sj]; exact L0)⟩)
  rw [if_neg qs1_9] at hf
  have qs1_o : (a0).toInt < 0 ∨ 9 < (a0).toInt := by
    refine tsw_out 0 9 (by decide) ?_
    intro k h1 h2
    have z : k = 0 ∨ k = 1 ∨ k = 2 ∨ k = 3 ∨ k = 4 ∨ k = 5 ∨ k = 6 ∨ k = 7 ∨ k = 8 ∨ k = 9 := by omega
    rcases z with rfl | rfl | rfl | rfl | rfl | rfl | rfl | rfl | rfl | rfl
    · exact qs1_0
    · exact qs1_1
    · exact qs1_2
    · exact qs1_3
    · exact qs1_4
    · exact qs1_5
    · exact qs1_6
    · exact qs1_7
    · exact qs1_8
    · exact qs1_9
  refine XS.go (s_tswO (tgt := 249) rfl qs1_o rfl) ?_
  refine XS.go (s_iconst (v := (-1)) rfl rfl) ?_
  cases hf
  exact XR.reti rfl rfl (fun hret => ⟨_, hret, ⟨rfl, rfl⟩, (by simp only [LY_si, LY_sj]; exact L0)⟩)
def f_m_fieldOf (a0 : Int32) (a1 : Int32) (a2 : Int32) (h : XH) : Option (Int32 × XH) := (if a0 = 0 then (match f_m_isTable a1 h with | none => none | some r2 => (if r2.1 = 0 then (some ((-1), r2.2)) else (if a2 < 0 then (some ((-1), r2.2)) else (if 0 ≤ a1 ∧ a1 < nI 16 then (if (hi r2.2 1283 (Int32.toNatClampNeg a1)) ≤ a2 then (some ((-1), r2.2)) else (some (((16 * a1) + a2), r2.2))) else none)))) else (match f_m_isStruct a1 h with | none => none | some r9 => (if r9.1 = 0 then (some ((-1), r9.2)) else (if a2 < 0 then (some ((-1), r9.2)) else (if 0 ≤ a1 ∧ a1 < nI 12 then (if (hi r9.2 1273 (Int32.toNatClampNeg a1)) ≤ a2 then (some ((-1), r9.2)) else (some (((12 * a1) + a2), r9.2))) else none)))))
set_option maxRecDepth 20000 in
theorem kf_m_fieldOf {l : Launch} {G : XG} {d : Nat} {a0 : Int32} {a1 : Int32} {a2 : Int32} {h : XH} {r : Int32 × XH} (L0 : LY h) (hf : f_m_fieldOf a0 a1 a2 h = some r) : XC l G xEX12_fieldOf (d + 1) [.ref 1262, .int a0, .int a1, .int a2] h (fun v h2 => (h2 = r.2 ∧ v = some (.int r.1)) ∧ LY r.2) := by
  refine XC.virt xvX12_fieldOf (Nat.le_of_ble_eq_true rfl) ?_
  unfold f_m_fieldOf at hf
  refine XS.go (s_iloadn rfl rfl rfl) ?_
  refine r_if_eq (tgt := 37) rfl rfl (fun qc1 => ?_) (fun qc1 => ?_)
  · rw [if_pos qc1] at hf
    refine XS.go (s_aloadn rfl rfl rfl) ?_
    refine XS.go (s_iloadn rfl rfl rfl) ?_
    rcases e3 : f_m_isTable a1 h with _ | r2
    · rw [e3] at hf; cases hf
    rw [e3] at hf; dsimp only at hf
    refine r_callv rfl xvX12_isTable xm12_372 (kf_m_isTable (d := d) L0 e3) (LY.lt L0 (by decide)) (LY.k1262 L0) (by decide) rfl rfl (by omega) (by decide) (Nat.le_of_ble_eq_true rfl) ?_
    rintro _ _ ⟨⟨rfl, rfl⟩, L4⟩
    refine r_if_eq (tgt := 68) rfl rfl (fun qc5 => ?_) (fun qc5 => ?_)
    · rw [if_pos qc5] at hf
      refine XS.go (s_iconst (v := (-1)) rfl rfl) ?_
      cases hf
      exact XR.reti rfl rfl (fun hret => ⟨_, hret, ⟨rfl, rfl⟩, L4⟩)
    · rw [if_neg qc5] at hf
      refine XS.go (s_iloadn rfl rfl rfl) ?_
      refine r_if_lt (tgt := 68) rfl rfl (fun qc6 => ?_) (fun qc6 => ?_)
      · rw [if_pos qc6] at hf
        refine XS.go (s_iconst (v := (-1)) rfl rfl) ?_
        cases hf
        exact XR.reti rfl rfl (fun hret => ⟨_, hret, ⟨rfl, rfl⟩, L4⟩)
      · rw [if_neg qc6] at hf
        refine XS.go (s_iloadn rfl rfl rfl) ?_
        refine XS.go (s_aloadn rfl rfl rfl) ?_
        refine XS.go (s_getr rfl xf12_70 (LY.lt L4 (by decide)) (LY.k1262 L4) (by decide) rfl (LY.r1262_32 L4)) ?_
        refine XS.go (s_iloadn rfl rfl rfl) ?_
        by_cases qk7 : 0 ≤ a1 ∧ a1 < nI 16
        rotate_left
        · rw [if_neg qk7] at hf; cases hf
        rw [if_pos qk7] at hf
        refine XS.go (s_ialde rfl (LY.lt L4 (by decide)) (LY.k1283 L4) (inLit (LY.n1283 L4) qk7.1 qk7.2 (by decide)) rfl) ?_
        refine r_icmp_ge (tgt := 68) rfl rfl (fun qc8 => ?_) (fun qc8 => ?_)
        · rw [if_pos qc8] at hf
          refine XS.go (s_iconst (v := (-1)) rfl rfl) ?_
          cases hf
          exact XR.reti rfl rfl (fun hret => ⟨_, hret, ⟨rfl, rfl⟩, L4⟩)
        · rw [if_neg qc8] at hf
          refine XS.go (s_bipush (v := 16) rfl rfl) ?_
          refine XS.go (s_iloadn rfl rfl rfl) ?_
          refine XS.go (s_imul rfl) ?_
          refine XS.go (s_iloadn rfl rfl rfl) ?_
          refine XS.go (s_iadd rfl) ?_
          refine XS.go (s_goto (tgt := 69) rfl rfl) ?_
          cases hf
          exact XR.reti rfl rfl (fun hret => ⟨_, hret, ⟨rfl, rfl⟩, L4⟩)
  · rw [if_neg qc1] at hf
    refine XS.go (s_aloadn rfl rfl rfl) ?_
    refine XS.go (s_iloadn rfl rfl rfl) ?_
    rcases e10 : f_m_isStruct a1 h with _ | r9
    · rw [e10] at hf; cases hf
    rw [e10] at hf; dsimp only at hf
    refine r_callv rfl xvX12_isStruct xm12_369 (kf_m_isStruct (d := d) L0 e10) (LY.lt L0 (by decide)) (LY.k1262 L0) (by decide) rfl rfl (by omega) (by decide) (Nat.le_of_ble_eq_true rfl) ?_
    rintro _ _ ⟨⟨rfl, rfl⟩, L11⟩
    refine r_if_eq (tgt := 35) rfl rfl (fun qc12 => ?_) (fun qc12 => ?_)
    · rw [if_pos qc12] at hf
      refine XS.go (s_iconst (v := (-1)) rfl rfl) ?_
      cases hf
      exact XR.reti rfl rfl (fun hret => ⟨_, hret, ⟨rfl, rfl⟩, L11⟩)
    · rw [if_neg qc12] at hf
      refine XS.go (s_iloadn rfl rfl rfl) ?_
      refine r_if_lt (tgt := 35) rfl rfl (fun qc13 => ?_) (fun qc13 => ?_)
      · rw [if_pos qc13] at hf
        refine XS.go (s_iconst (v := (-1)) rfl rfl) ?_
        cases hf
        exact XR.reti rfl rfl (fun hret => ⟨_, hret, ⟨rfl, rfl⟩, L11⟩)
      · rw [if_neg qc13] at hf
        refine XS.go (s_iloadn rfl rfl rfl) ?_
        refine XS.go (s_aloadn rfl rfl rfl) ?_
        refine XS.go (s_getr rfl xf12_40 (LY.lt L11 (by decide)) (LY.k1262 L11) (by decide) rfl (LY.r1262_21 L11)) ?_
        refine XS.go (s_iloadn rfl rfl rfl) ?_
        by_cases qk14 : 0 ≤ a1 ∧ a1 < nI 12
        rotate_left
        · rw [if_neg qk14] at hf; cases hf
        rw [if_pos qk14] at hf
        refine XS.go (s_ialde rfl (LY.lt L11 (by decide)) (LY.k1273 L11) (inLit (LY.n1273 L11) qk14.1 qk14.2 (by decide)) rfl) ?_
        refine r_icmp_ge (tgt := 35) rfl rfl (fun qc15 => ?_) (fun qc15 => ?_)
        · rw [if_pos qc15] at hf
          refine XS.go (s_iconst (v := (-1)) rfl rfl) ?_
          cases hf
          exact XR.reti rfl rfl (fun hret => ⟨_, hret, ⟨rfl, rfl⟩, L11⟩)
        · rw [if_neg qc15] at hf
          refine XS.go (s_bipush (v := 12) rfl rfl) ?_
          refine XS.go (s_iloadn rfl rfl rfl) ?_
          refine XS.go (s_imul rfl) ?_
          refine XS.go (s_iloadn rfl rfl rfl) ?_
          refine XS.go (s_iadd rfl) ?_
          refine XS.go (s_goto (tgt := 36) rfl rfl) ?_
          cases hf
          exact XR.reti rfl rfl (fun hret => ⟨_, hret, ⟨rfl, rfl⟩, L11⟩)
def f_m_field (a0 : Int32) (a1 : Int32) (a2 : Int32) (a3 : Int32) (h : XH) : Option (Int32 × XH) := (match f_m_fieldOf a0 a1 a2 (hsi h 1262 0 0) with | none => none | some r1 => (if ¬ r1.1 = (-1) then (if a3 = 0 then (if a0 = 0 then (if 0 ≤ r1.1 ∧ r1.1 < nI 256 then (some ((hi r1.2 1286 (Int32.toNatClampNeg r1.1)), r1.2)) else none) else (if 0 ≤ r1.1 ∧ r1.1 < nI 144 then (some ((hi r1.2 1277 (Int32.toNatClampNeg r1.1)), r1.2)) else none)) else (if a3 = 1 then (if a0 = 0 then (if 0 ≤ r1.1 ∧ r1.1 < nI 256 then (some ((hi r1.2 1287 (Int32.toNatClampNeg r1.1)), r1.2)) else none) else (if 0 ≤ r1.1 ∧ r1.1 < nI 144 then (some ((hi r1.2 1278 (Int32.toNatClampNeg r1.1)), r1.2)) else none)) else (if a3 = 2 then (if a0 = 0 then (if 0 ≤ r1.1 ∧ r1.1 < nI 256 then (some ((hi r1.2 1288 (Int32.toNatClampNeg r1.1)), r1.2)) else none) else (some ((-1), r1.2))) else (if a3 = 3 then (if a0 = 0 then (if 0 ≤ r1.1 ∧ r1.1 < nI 256 then (some ((hi r1.2 1289 (Int32.toNatClampNeg r1.1)), r1.2)) else none) else (if 0 ≤ r1.1 ∧ r1.1 < nI 144 then (some ((hi r1.2 1279 (Int32.toNatClampNeg r1.1)), r1.2)) else none)) else (if a3 = 4 then (if a0 = 0 then (if 0 ≤ r1.1 ∧ r1.1 < nI 256 then (some ((hi r1.2 1290 (Int32.toNatClampNeg r1.1)), r1.2)) else none) else (some (0, r1.2))) else (some ((-1), r1.2))))))) else (some ((-1), r1.2))))
set_option maxRecDepth 20000 in
theorem kf_m_field {l : Launch} {G : XG} {d : Nat} {a0 : Int32} {a1 : Int32} {a2 : Int32} {a3 : Int32} {h : XH} {r : Int32 × XH} (L0 : LY h) (hf : f_m_field a0 a1 a2 a3 h = some r) : XC l G xEX12_field (d + 2) [.ref 1262, .int a0, .int a1, .int a2, .int a3] h (fun v h2 => (h2 = r.2 ∧ v = some (.int r.1)) ∧ LY r.2) := by
  refine XC.virt xvX12_field (Nat.le_of_ble_eq_true rfl) ?_
  unfold f_m_field at hf
  refine XS.go (s_aloadn rfl rfl rfl) ?_
  refine XS.go (s_iconst (v := 0) rfl rfl) ?_
  refine XS.go (s_puti rfl xf12_175 (LY.lt L0 (by decide)) (LY.k1262 L0) (by decide) rfl (Or.inl rfl)) ?_
  refine XS.go (s_aloadn rfl rfl rfl) ?_
  refine XS.go (s_iloadn rfl rfl rfl) ?_
  refine XS.go (s_iloadn rfl rfl rfl) ?_
  refine XS.go (s_iloadn rfl rfl rfl) ?_
  rcases e2 : f_m_fieldOf a0 a1 a2 (hsi h 1262 0 0) with _ | r1
  · rw [e2] at hf; cases hf
  rw [e2] at hf; dsimp only at hf
  refine r_callv rfl xvX12_fieldOf xm12_375 (kf_m_fieldOf (d := d) (by simp only [LY_si, LY_sj]; exact L0) e2) (LY.lt (by simp only [LY_si, LY_sj]; exact L0) (by decide)) (LY.k1262 (by simp only [LY_si, LY_sj]; exact L0)) (by decide) rfl rfl (by omega) (by decide) (Nat.le_of_ble_eq_true rfl) ?_
  rintro _ _ ⟨⟨rfl, rfl⟩, L3⟩
  refine XS.go (s_istore rfl (Nat.le_of_ble_eq_true rfl)) ?_
  refine XS.go (s_iload rfl rfl) ?_
  refine XS.go (s_iconst (v := (-1)) rfl rfl) ?_
  refine r_icmp_ne (tgt := 22) rfl rfl (fun qc4 => ?_) (fun qc4 => ?_)
  · rw [if_pos qc4] at hf
    refine XS.go (s_iload rfl rfl) ?_
    by_cases qs5_0 : a3 = 0
    · rw [if_pos qs5_0] at hf
      refine XS.go (s_tswI (tgt := 60) rfl (by rw [qs5_0]; decide) (by rw [qs5_0]; decide) (by rw [qs5_0]; rfl) rfl) ?_
      refine XS.go (s_iloadn rfl rfl rfl) ?_
      refine r_if_eq (tgt := 74) rfl rfl (fun qc6 => ?_) (fun qc6 => ?_)
      · rw [if_pos qc6] at hf
        refine XS.go (s_aloadn rfl rfl rfl) ?_
        refine XS.go (s_getr rfl xf12_79 (LY.lt L3 (by decide)) (LY.k1262 L3) (by decide) rfl (LY.r1262_35 L3)) ?_
        refine XS.go (s_iload rfl rfl) ?_
        by_cases qk7 : 0 ≤ r1.1 ∧ r1.1 < nI 256
        rotate_left
        · rw [if_neg qk7] at hf; cases hf
        rw [if_pos qk7] at hf
        refine XS.go (s_ialde rfl (LY.lt L3 (by decide)) (LY.k1286 L3) (inLit (LY.n1286 L3) qk7.1 qk7.2 (by decide)) rfl) ?_
        cases hf
        exact XR.reti rfl rfl (fun hret => ⟨_, hret, ⟨rfl, rfl⟩, L3⟩)
      · rw [if_neg qc6] at hf
        refine XS.go (s_aloadn rfl rfl rfl) ?_
        refine XS.go (s_getr rfl xf12_52 (LY.lt L3 (by decide)) (LY.k1262 L3) (by decide) rfl (LY.r1262_25 L3)) ?_
        refine XS.go (s_iload rfl rfl) ?_
        by_cases qk8 : 0 ≤ r1.1 ∧ r1.1 < nI 144
        rotate_left
        · rw [if_neg qk8] at hf; cases hf
        rw [if_pos qk8] at hf
        refine XS.go (s_ialde rfl (LY.lt L3 (by decide)) (LY.k1277 L3) (inLit (LY.n1277 L3) qk8.1 qk8.2 (by decide)) rfl) ?_
        refine XS.go (s_goto (tgt := 81) rfl rfl) ?_
        cases hf
        exact XR.reti rfl rfl (fun hret => ⟨_, hret, ⟨rfl, rfl⟩, L3⟩)
    rw [if_neg qs5_0] at hf
    by_cases qs5_1 : a3 = 1
    · rw [if_pos qs5_1] at hf
      refine XS.go (s_tswI (tgt := 82) rfl (by rw [qs5_1]; decide) (by rw [qs5_1]; decide) (by rw [qs5_1]; rfl) rfl) ?_
      refine XS.go (s_iloadn rfl rfl rfl) ?_
      refine r_if_eq (tgt := 96) rfl rfl (fun qc9 => ?_) (fun qc9 => ?_)
      · rw [if_pos qc9] at hf
        refine XS.go (s_aloadn rfl rfl rfl) ?_
        refine XS.go (s_getr rfl xf12_82 (LY.lt L3 (by decide)) (LY.k1262 L3) (by decide) rfl (LY.r1262_36 L3)) ?_
        refine XS.go (s_iload rfl rfl) ?_
        by_cases qk10 : 0 ≤ r1.1 ∧ r1.1 < nI 256
        rotate_left
        · rw [if_neg qk10] at hf; cases hf
        rw [if_pos qk10] at hf
        refine XS.go (s_ialde rfl (LY.lt L3 (by decide)) (LY.k1287 L3) (inLit (LY.n1287 L3) qk10.1 qk10.2 (by decide)) rfl) ?_
        cases hf
        exact XR.reti rfl rfl (fun hret => ⟨_, hret, ⟨rfl, rfl⟩, L3⟩)
      · rw [if_neg qc9] at hf
        refine XS.go (s_aloadn rfl rfl rfl) ?_
        refine XS.go (s_getr rfl xf12_55 (LY.lt L3 (by decide)) (LY.k1262 L3) (by decide) rfl (LY.r1262_26 L3)) ?_
        refine XS.go (s_iload rfl rfl) ?_
        by_cases qk11 : 0 ≤ r1.1 ∧ r1.1 < nI 144
        rotate_left
        · rw [if_neg qk11] at hf; cases hf
        rw [if_pos qk11] at hf
        refine XS.go (s_ialde rfl (LY.lt L3 (by decide)) (LY.k1278 L3) (inLit (LY.n1278 L3) qk11.1 qk11.2 (by decide)) rfl) ?_
        refine XS.go (s_goto (tgt := 103) rfl rfl) ?_
        cases hf
        exact XR.reti rfl rfl (fun hret => ⟨_, hret, ⟨rfl, rfl⟩, L3⟩)
    rw [if_neg qs5_1] at hf
    by_cases qs5_2 : a3 = 2
    · rw [if_pos qs5_2] at hf
      refine XS.go (s_tswI (tgt := 104) rfl (by rw [qs5_2]; decide) (by rw [qs5_2]; decide) (by rw [qs5_2]; rfl) rfl) ?_
      refine XS.go (s_iloadn rfl rfl rfl) ?_
      refine r_if_eq (tgt := 112) rfl rfl (fun qc12 => ?_) (fun qc12 => ?_)
      · rw [if_pos qc12] at hf
        refine XS.go (s_aloadn rfl rfl rfl) ?_
        refine XS.go (s_getr rfl xf12_85 (LY.lt L3 (by decide)) (LY.k1262 L3) (by decide) rfl (LY.r1262_37 L3)) ?_
        refine XS.go (s_iload rfl rfl) ?_
        by_cases qk13 : 0 ≤ r1.1 ∧ r1.1 < nI 256
        rotate_left
        · rw [if_neg qk13] at hf; cases hf
        rw [if_pos qk13] at hf
        refine XS.go (s_ialde rfl (LY.lt L3 (by decide)) (LY.k1288 L3) (inLit (LY.n1288 L3) qk13.1 qk13.2 (by decide)) rfl) ?_
        cases hf
        exact XR.reti rfl rfl (fun hret => ⟨_, hret, ⟨rfl, rfl⟩, L3⟩)
      · rw [if_neg qc12] at hf
        refine XS.go (s_iconst (v := (-1)) rfl rfl) ?_
        refine XS.go (s_goto (tgt := 119) rfl rfl) ?_
        cases hf
        exact XR.reti rfl rfl (fun hret => ⟨_, hret, ⟨rfl, rfl⟩, L3⟩)
    rw [if_neg qs5_2] at hf
    by_cases qs5_3 : a3 = 3
    · rw [if_pos qs5_3] at hf
      refine XS.go (s_tswI (tgt := 120) rfl (by rw [qs5_3]; decide) (by rw [qs5_3]; decide) (by rw [qs5_3]; rfl) rfl) ?_
      refine XS.go (s_iloadn rfl rfl rfl) ?_
      refine r_if_eq (tgt := 134) rfl rfl (fun qc14 => ?_) (fun qc14 => ?_)
      · rw [if_pos qc14] at hf
        refine XS.go (s_aloadn rfl rfl rfl) ?_
        refine XS.go (s_getr rfl xf12_88 (LY.lt L3 (by decide)) (LY.k1262 L3) (by decide) rfl (LY.r1262_38 L3)) ?_
        refine XS.go (s_iload rfl rfl) ?_
        by_cases qk15 : 0 ≤ r1.1 ∧ r1.1 < nI 256
        rotate_left
        · rw [if_neg qk15] at hf; cases hf
        rw [if_pos qk15] at hf
        refine XS.go (s_ialde rfl (LY.lt L3 (by decide)) (LY.k1289 L3) (inLit (LY.n1289 L3) qk15.1 qk15.2 (by decide)) rfl) ?_
        cases hf
        exact XR.reti rfl rfl (fun hret => ⟨_, hret, ⟨rfl, rfl⟩, L3⟩)
      · rw [if_neg qc14] at hf
        refine XS.go (s_aloadn rfl rfl rfl) ?_
        refine XS.go (s_getr rfl xf12_58 (LY.lt L3 (by decide)) (LY.k1262 L3) (by decide) rfl (LY.r1262_27 L3)) ?_
        refine XS.go (s_iload rfl rfl) ?_
        by_cases qk16 : 0 ≤ r1.1 ∧ r1.1 < nI 144
        rotate_left
        · rw [if_neg qk16] at hf; cases hf
        rw [if_pos qk16] at hf
        refine XS.go (s_ialde rfl (LY.lt L3 (by decide)) (LY.k1279 L3) (inLit (LY.n1279 L3) qk16.1 qk16.2 (by decide)) rfl) ?_
        refine XS.go (s_goto (tgt := 141) rfl rfl) ?_
        cases hf
        exact XR.reti rfl rfl (fun hret => ⟨_, hret, ⟨rfl, rfl⟩, L3⟩)
    rw [if_neg qs5_3] at hf
    by_cases qs5_4 : a3 = 4
    · rw [if_pos qs5_4] at hf
      refine XS.go (s_tswI (tgt := 142) rfl (by rw [qs5_4]; decide) (by rw [qs5_4]; decide) (by rw [qs5_4]; rfl) rfl) ?_
      refine XS.go (s_iloadn rfl rfl rfl) ?_
      refine r_if_eq (tgt := 150) rfl rfl (fun qc17 => ?_) (fun qc17 => ?_)
      · rw [if_pos qc17] at hf
        refine XS.go (s_aloadn rfl rfl rfl) ?_
        refine XS.go (s_getr rfl xf12_91 (LY.lt L3 (by decide)) (LY.k1262 L3) (by decide) rfl (LY.r1262_39 L3)) ?_
        refine XS.go (s_iload rfl rfl) ?_
        by_cases qk18 : 0 ≤ r1.1 ∧ r1.1 < nI 256
        rotate_left
        · rw [if_neg qk18] at hf; cases hf
        rw [if_pos qk18] at hf
        refine XS.go (s_ialde rfl (LY.lt L3 (by decide)) (LY.k1290 L3) (inLit (LY.n1290 L3) qk18.1 qk18.2 (by decide)) rfl) ?_
        cases hf
        exact XR.reti rfl rfl (fun hret => ⟨_, hret, ⟨rfl, rfl⟩, L3⟩)
      · rw [if_neg qc17] at hf
        refine XS.go (s_iconst (v := 0) rfl rfl) ?_
        refine XS.go (s_goto (tgt := 157) rfl rfl) ?_
        cases hf
        exact XR.reti rfl rfl (fun hret => ⟨_, hret, ⟨rfl, rfl⟩, L3⟩)
    rw [if_neg qs5_4] at hf
    have qs5_o : (a3).toInt < 0 ∨ 4 < (a3).toInt := by
      refine tsw_out 0 4 (by decide) ?_
      intro k h1 h2
      have z : k = 0 ∨ k = 1 ∨ k = 2 ∨ k = 3 ∨ k = 4 := by omega
      rcases z with rfl | rfl | rfl | rfl | rfl
      · exact qs5_0
      · exact qs5_1
      · exact qs5_2
      · exact qs5_3
      · exact qs5_4
    refine XS.go (s_tswO (tgt := 158) rfl qs5_o rfl) ?_
    refine XS.go (s_iconst (v := (-1)) rfl rfl) ?_
    cases hf
    exact XR.reti rfl rfl (fun hret => ⟨_, hret, ⟨rfl, rfl⟩, L3⟩)
  · rw [if_neg qc4] at hf
    refine XS.go (s_iconst (v := (-1)) rfl rfl) ?_
    cases hf
    exact XR.reti rfl rfl (fun hret => ⟨_, hret, ⟨rfl, rfl⟩, L3⟩)
def b_m_standard_27 (h : XH) : Option (Int64 × XH) := (some (0, h))
set_option maxRecDepth 20000 in
theorem kb_m_standard_27 {l : Launch} {G : XG} {d : Nat} {h : XH} {r : Int64 × XH} (L0 : LY h) (hf : b_m_standard_27 h = some r) : XR l G xEX12_standard (d + 2) (27, [none, none, none, none], [], h) (fun C => ∃ v, xRet xEX12_standard C v ∧ (C.2.2.2 = r.2 ∧ v = some (.long r.1)) ∧ LY r.2) := by
  unfold b_m_standard_27 at hf
  refine XS.go (s_lconst (v := 0) rfl rfl) ?_
  refine XS.go (s_goto (tgt := 37) rfl rfl) ?_
  cases hf
  exact XR.retl rfl rfl (fun hret => ⟨_, hret, ⟨rfl, rfl⟩, L0⟩)
def f_m_standard (a0 : Int32) (a1 : Int32) (h : XH) : Option (Int64 × XH) := (match f_m_fieldOf 0 a0 a1 (hsi h 1262 0 0) with | none => none | some r1 => (if r1.1 = (-1) then (b_m_standard_27 r1.2) else (if 0 ≤ r1.1 ∧ r1.1 < nI 256 then (if (hi r1.2 1286 (Int32.toNatClampNeg r1.1)) = 0 then (some ((hj r1.2 1291 (Int32.toNatClampNeg r1.1)), r1.2)) else (b_m_standard_27 r1.2)) else none)))
set_option maxRecDepth 20000 in
theorem kf_m_standard {l : Launch} {G : XG} {d : Nat} {a0 : Int32} {a1 : Int32} {h : XH} {r : Int64 × XH} (L0 : LY h) (hf : f_m_standard a0 a1 h = some r) : XC l G xEX12_standard (d + 2) [.ref 1262, .int a0, .int a1] h (fun v h2 => (h2 = r.2 ∧ v = some (.long r.1)) ∧ LY r.2) := by
  refine XC.virt xvX12_standard (Nat.le_of_ble_eq_true rfl) ?_
  unfold f_m_standard at hf
  refine XS.go (s_aloadn rfl rfl rfl) ?_
  refine XS.go (s_iconst (v := 0) rfl rfl) ?_
  refine XS.go (s_puti rfl xf12_175 (LY.lt L0 (by decide)) (LY.k1262 L0) (by decide) rfl (Or.inl rfl)) ?_
  refine XS.go (s_aloadn rfl rfl rfl) ?_
  refine XS.go (s_iconst (v := 0) rfl rfl) ?_
  refine XS.go (s_iloadn rfl rfl rfl) ?_
  refine XS.go (s_iloadn rfl rfl rfl) ?_
  rcases e2 : f_m_fieldOf 0 a0 a1 (hsi h 1262 0 0) with _ | r1
  · rw [e2] at hf; cases hf
  rw [e2] at hf; dsimp only at hf
  refine r_callv rfl xvX12_fieldOf xm12_375 (kf_m_fieldOf (d := d) (by simp only [LY_si, LY_sj]; exact L0) e2) (LY.lt (by simp only [LY_si, LY_sj]; exact L0) (by decide)) (LY.k1262 (by simp only [LY_si, LY_sj]; exact L0)) (by decide) rfl rfl (by omega) (by decide) (Nat.le_of_ble_eq_true rfl) ?_
  rintro _ _ ⟨⟨rfl, rfl⟩, L3⟩
  refine XS.go (s_istoren rfl rfl (Nat.le_of_ble_eq_true rfl)) ?_
  refine XS.go (s_iloadn rfl rfl rfl) ?_
  refine XS.go (s_iconst (v := (-1)) rfl rfl) ?_
  refine r_icmp_eq (tgt := 27) rfl rfl (fun qc4 => ?_) (fun qc4 => ?_)
  · rw [if_pos qc4] at hf
    exact XR.forget (L2 := [none, none, none, none]) trivial (kb_m_standard_27 L3 hf)
  · rw [if_neg qc4] at hf
    refine XS.go (s_aloadn rfl rfl rfl) ?_
    refine XS.go (s_getr rfl xf12_79 (LY.lt L3 (by decide)) (LY.k1262 L3) (by decide) rfl (LY.r1262_35 L3)) ?_
    refine XS.go (s_iloadn rfl rfl rfl) ?_
    by_cases qk5 : 0 ≤ r1.1 ∧ r1.1 < nI 256
    rotate_left
    · rw [if_neg qk5] at hf; cases hf
    rw [if_pos qk5] at hf
    refine XS.go (s_ialde rfl (LY.lt L3 (by decide)) (LY.k1286 L3) (inLit (LY.n1286 L3) qk5.1 qk5.2 (by decide)) rfl) ?_
    refine r_if_eq (tgt := 31) rfl rfl (fun qc6 => ?_) (fun qc6 => ?_)
    · rw [if_pos qc6] at hf
      refine XS.go (s_aloadn rfl rfl rfl) ?_
      refine XS.go (s_getr rfl xf12_94 (LY.lt L3 (by decide)) (LY.k1262 L3) (by decide) rfl (LY.r1262_40 L3)) ?_
      refine XS.go (s_iloadn rfl rfl rfl) ?_
      refine XS.go (s_lalde rfl (LY.lt L3 (by decide)) (LY.k1291 L3) (inLit (LY.n1291 L3) qk5.1 qk5.2 (by decide)) rfl) ?_
      cases hf
      exact XR.retl rfl rfl (fun hret => ⟨_, hret, ⟨rfl, rfl⟩, L3⟩)
    · rw [if_neg qc6] at hf
      exact XR.forget (L2 := [none, none, none, none]) trivial (kb_m_standard_27 L3 hf)
def b_m_find_185 (K67 : Int32 → Int32 → Int32 → Int32 → Int32 → XH → Option (Int32 × XH)) (x1 : Int32) (x2 : Int32) (x3 : Int32) (x5 : Int32) (x6 : Int32) (x8 : Int32) (h : XH) : Option (Int32 × XH) := (if x8 = 0 then (K67 x1 x2 x3 x5 (x6 + 1) h) else (some (x6, h)))
set_option maxRecDepth 20000 in
theorem kb_m_find_185 {l : Launch} {G : XG} {d : Nat} {K67 : Int32 → Int32 → Int32 → Int32 → Int32 → XH → Option (Int32 × XH)} {x1 : Int32} {x2 : Int32} {x3 : Int32} {x5 : Int32} {x6 : Int32} {x8 : Int32} {h : XH} {r : Int32 × XH} (hK67 : ∀ (x1 : Int32) (x2 : Int32) (x3 : Int32) (x5 : Int32) (x6 : Int32) (h : XH), LY h → K67 x1 x2 x3 x5 x6 h = some r → XR l G xEX12_find (d + 1) (67, [some (.ref 1262), some (.int x1), some (.int x2), some (.int x3), none, some (.int x5), some (.int x6), none, none, none], [], h) (fun C => ∃ v, xRet xEX12_find C v ∧ (C.2.2.2 = r.2 ∧ v = some (.int r.1)) ∧ LY r.2)) (L0 : LY h) (hf : b_m_find_185 K67 x1 x2 x3 x5 x6 x8 h = some r) : XR l G xEX12_find (d + 1) (185, [some (.ref 1262), some (.int x1), some (.int x2), some (.int x3), none, some (.int x5), some (.int x6), none, some (.int x8), none], [], h) (fun C => ∃ v, xRet xEX12_find C v ∧ (C.2.2.2 = r.2 ∧ v = some (.int r.1)) ∧ LY r.2) := by
  unfold b_m_find_185 at hf
  refine XS.go (s_iload rfl rfl) ?_
  refine r_if_eq (tgt := 193) rfl rfl (fun qc1 => ?_) (fun qc1 => ?_)
  · rw [if_pos qc1] at hf
    refine XS.go (s_inc rfl rfl (Nat.le_of_ble_eq_true rfl)) ?_
    refine XS.go (s_goto (tgt := 67) rfl rfl) ?_
    exact XR.forget (L2 := [some (.ref 1262), some (.int x1), some (.int x2), some (.int x3), none, some (.int x5), some (.int (x6 + 1)), none, none, none]) ⟨rfl, ⟨rfl, ⟨rfl, ⟨rfl, ⟨rfl, ⟨rfl, trivial⟩⟩⟩⟩⟩⟩ (hK67 x1 x2 x3 x5 (x6 + 1) _ L0 hf)
  · rw [if_neg qc1] at hf
    refine XS.go (s_iload rfl rfl) ?_
    cases hf
    exact XR.reti rfl rfl (fun hret => ⟨_, hret, ⟨rfl, rfl⟩, L0⟩)
def b_m_find_177 (K67 : Int32 → Int32 → Int32 → Int32 → Int32 → XH → Option (Int32 × XH)) (K136 : Int32 → Int32 → Int32 → Int32 → Int32 → Int32 → Int32 → Int32 → XH → Option (Int32 × XH)) (x1 : Int32) (x2 : Int32) (x3 : Int32) (x5 : Int32) (x6 : Int32) (x7 : Int32) (x9 : Int32) (y0 : Int32) (h : XH) : Option (Int32 × XH) := (K136 x1 x2 x3 x5 x6 x7 y0 (x9 + 1) h)
set_option maxRecDepth 20000 in
theorem kb_m_find_177 {l : Launch} {G : XG} {d : Nat} {K67 : Int32 → Int32 → Int32 → Int32 → Int32 → XH → Option (Int32 × XH)} {K136 : Int32 → Int32 → Int32 → Int32 → Int32 → Int32 → Int32 → Int32 → XH → Option (Int32 × XH)} {x1 : Int32} {x2 : Int32} {x3 : Int32} {x5 : Int32} {x6 : Int32} {x7 : Int32} {x9 : Int32} {y0 : Int32} {h : XH} {r : Int32 × XH} (hK67 : ∀ (x1 : Int32) (x2 : Int32) (x3 : Int32) (x5 : Int32) (x6 : Int32) (h : XH), LY h → K67 x1 x2 x3 x5 x6 h = some r → XR l G xEX12_find (d + 1) (67, [some (.ref 1262), some (.int x1), some (.int x2), some (.int x3), none, some (.int x5), some (.int x6), none, none, none], [], h) (fun C => ∃ v, xRet xEX12_find C v ∧ (C.2.2.2 = r.2 ∧ v = some (.int r.1)) ∧ LY r.2)) (hK136 : ∀ (x1 : Int32) (x2 : Int32) (x3 : Int32) (x5 : Int32) (x6 : Int32) (x7 : Int32) (x8 : Int32) (x9 : Int32) (h : XH), LY h → K136 x1 x2 x3 x5 x6 x7 x8 x9 h = some r → XR l G xEX12_find (d + 1) (136, [some (.ref 1262), some (.int x1), some (.int x2), some (.int x3), none, some (.int x5), some (.int x6), some (.int x7), some (.int x8), some (.int x9)], [], h) (fun C => ∃ v, xRet xEX12_find C v ∧ (C.2.2.2 = r.2 ∧ v = some (.int r.1)) ∧ LY r.2)) (L0 : LY h) (hf : b_m_find_177 K67 K136 x1 x2 x3 x5 x6 x7 x9 y0 h = some r) : XR l G xEX12_find (d + 1) (177, [some (.ref 1262), some (.int x1), some (.int x2), some (.int x3), none, some (.int x5), some (.int x6), some (.int x7), none, some (.int x9)], [(.int y0)], h) (fun C => ∃ v, xRet xEX12_find C v ∧ (C.2.2.2 = r.2 ∧ v = some (.int r.1)) ∧ LY r.2) := by
  unfold b_m_find_177 at hf
  refine XS.go (s_istore rfl (Nat.le_of_ble_eq_true rfl)) ?_
  refine XS.go (s_inc rfl rfl (Nat.le_of_ble_eq_true rfl)) ?_
  refine XS.go (s_goto (tgt := 136) rfl rfl) ?_
  exact XR.forget (L2 := [some (.ref 1262), some (.int x1), some (.int x2), some (.int x3), none, some (.int x5), some (.int x6), some (.int x7), some (.int y0), some (.int (x9 + 1))]) ⟨rfl, ⟨rfl, ⟨rfl, ⟨rfl, ⟨rfl, ⟨rfl, ⟨rfl, ⟨rfl, ⟨rfl, trivial⟩⟩⟩⟩⟩⟩⟩⟩⟩ (hK136 x1 x2 x3 x5 x6 x7 y0 (x9 + 1) _ L0 hf)
def s_m_find_136 (K67 : Int32 → Int32 → Int32 → Int32 → Int32 → XH → Option (Int32 × XH)) (K136 : Int32 → Int32 → Int32 → Int32 → Int32 → Int32 → Int32 → Int32 → XH → Option (Int32 × XH)) (x1 : Int32) (x2 : Int32) (x3 : Int32) (x5 : Int32) (x6 : Int32) (x7 : Int32) (x8 : Int32) (x9 : Int32) (h : XH) : Option (Int32 × XH) := (if x3 ≤ x9 then (b_m_find_185 K67 x1 x2 x3 x5 x6 x8 h) else (if x8 = 0 then (b_m_find_185 K67 x1 x2 x3 x5 x6 x8 h) else (if 0 ≤ x7 ∧ x7 < nI 4001 then (if 0 ≤ ((hi h 1267 (Int32.toNatClampNeg x7)) + x9) ∧ ((hi h 1267 (Int32.toNatClampNeg x7)) + x9) < nI 4000 then (if 0 ≤ x9 ∧ x9 < nI 4000 then (if ¬ (hi h 1264 (Int32.toNatClampNeg ((hi h 1267 (Int32.toNatClampNeg x7)) + x9))) = (hi h 1263 (Int32.toNatClampNeg x9)) then (b_m_find_177 K67 K136 x1 x2 x3 x5 x6 x7 x9 0 h) else (b_m_find_177 K67 K136 x1 x2 x3 x5 x6 x7 x9 1 h)) else none) else none) else none)))
set_option maxRecDepth 20000 in
theorem ks_m_find_136 {l : Launch} {G : XG} {d : Nat} {K67 : Int32 → Int32 → Int32 → Int32 → Int32 → XH → Option (Int32 × XH)} {K136 : Int32 → Int32 → Int32 → Int32 → Int32 → Int32 → Int32 → Int32 → XH → Option (Int32 × XH)} {x1 : Int32} {x2 : Int32} {x3 : Int32} {x5 : Int32} {x6 : Int32} {x7 : Int32} {x8 : Int32} {x9 : Int32} {h : XH} {r : Int32 × XH} (hK67 : ∀ (x1 : Int32) (x2 : Int32) (x3 : Int32) (x5 : Int32) (x6 : Int32) (h : XH), LY h → K67 x1 x2 x3 x5 x6 h = some r → XR l G xEX12_find (d + 1) (67, [some (.ref 1262), some (.int x1), some (.int x2), some (.int x3), none, some (.int x5), some (.int x6), none, none, none], [], h) (fun C => ∃ v, xRet xEX12_find C v ∧ (C.2.2.2 = r.2 ∧ v = some (.int r.1)) ∧ LY r.2)) (hK136 : ∀ (x1 : Int32) (x2 : Int32) (x3 : Int32) (x5 : Int32) (x6 : Int32) (x7 : Int32) (x8 : Int32) (x9 : Int32) (h : XH), LY h → K136 x1 x2 x3 x5 x6 x7 x8 x9 h = some r → XR l G xEX12_find (d + 1) (136, [some (.ref 1262), some (.int x1), some (.int x2), some (.int x3), none, some (.int x5), some (.int x6), some (.int x7), some (.int x8), some (.int x9)], [], h) (fun C => ∃ v, xRet xEX12_find C v ∧ (C.2.2.2 = r.2 ∧ v = some (.int r.1)) ∧ LY r.2)) (L0 : LY h) (hf : s_m_find_136 K67 K136 x1 x2 x3 x5 x6 x7 x8 x9 h = some r) : XR l G xEX12_find (d + 1) (136, [some (.ref 1262), some (.int x1), some (.int x2), some (.int x3), none, some (.int x5), some (.int x6), some (.int x7), some (.int x8), some (.int x9)], [], h) (fun C => ∃ v, xRet xEX12_find C v ∧ (C.2.2.2 = r.2 ∧ v = some (.int r.1)) ∧ LY r.2) := by
  unfold s_m_find_136 at hf
  refine XS.go (s_iload rfl rfl) ?_
  refine XS.go (s_iloadn rfl rfl rfl) ?_
  refine r_icmp_ge (tgt := 185) rfl rfl (fun qc2 => ?_) (fun qc2 => ?_)
  · rw [if_pos qc2] at hf
    exact XR.forget (L2 := [some (.ref 1262), some (.int x1), some (.int x2), some (.int x3), none, some (.int x5), some (.int x6), none, some (.int x8), none]) ⟨rfl, ⟨rfl, ⟨rfl, ⟨rfl, ⟨rfl, ⟨rfl, ⟨rfl, trivial⟩⟩⟩⟩⟩⟩⟩ (kb_m_find_185 hK67 L0 hf)
  · rw [if_neg qc2] at hf
    refine XS.go (s_iload rfl rfl) ?_
    refine r_if_eq (tgt := 185) rfl rfl (fun qc3 => ?_) (fun qc3 => ?_)
    · rw [if_pos qc3] at hf
      exact XR.forget (L2 := [some (.ref 1262), some (.int x1), some (.int x2), some (.int x3), none, some (.int x5), some (.int x6), none, some (.int x8), none]) ⟨rfl, ⟨rfl, ⟨rfl, ⟨rfl, ⟨rfl, ⟨rfl, ⟨rfl, trivial⟩⟩⟩⟩⟩⟩⟩ (kb_m_find_185 hK67 L0 hf)
    · rw [if_neg qc3] at hf
      refine XS.go (s_aloadn rfl rfl rfl) ?_
      refine XS.go (s_getr rfl xf12_13 (LY.lt L0 (by decide)) (LY.k1262 L0) (by decide) rfl (LY.r1262_3 L0)) ?_
      refine XS.go (s_aloadn rfl rfl rfl) ?_
      refine XS.go (s_getr rfl xf12_22 (LY.lt L0 (by decide)) (LY.k1262 L0) (by decide) rfl (LY.r1262_9 L0)) ?_
      refine XS.go (s_iload rfl rfl) ?_
      by_cases qk4 : 0 ≤ x7 ∧ x7 < nI 4001
      rotate_left
      · rw [if_neg qk4] at hf; cases hf
      rw [if_pos qk4] at hf
      refine XS.go (s_ialde rfl (LY.lt L0 (by decide)) (LY.k1267 L0) (inLit (LY.n1267 L0) qk4.1 qk4.2 (by decide)) rfl) ?_
      refine XS.go (s_iload rfl rfl) ?_
      refine XS.go (s_iadd rfl) ?_
      by_cases qk5 : 0 ≤ ((hi h 1267 (Int32.toNatClampNeg x7)) + x9) ∧ ((hi h 1267 (Int32.toNatClampNeg x7)) + x9) < nI 4000
      rotate_left
      · rw [if_neg qk5] at hf; cases hf
      rw [if_pos qk5] at hf
      refine XS.go (s_ialde rfl (LY.lt L0 (by decide)) (LY.k1264 L0) (inLit (LY.n1264 L0) qk5.1 qk5.2 (by decide)) rfl) ?_
      refine XS.go (s_aloadn rfl rfl rfl) ?_
      refine XS.go (s_getr rfl xf12_9 (LY.lt L0 (by decide)) (LY.k1262 L0) (by decide) rfl (LY.r1262_1 L0)) ?_
      refine XS.go (s_iload rfl rfl) ?_
      by_cases qk6 : 0 ≤ x9 ∧ x9 < nI 4000
      rotate_left
      · rw [if_neg qk6] at hf; cases hf
      rw [if_pos qk6] at hf
      refine XS.go (s_ialde rfl (LY.lt L0 (by decide)) (LY.k1263 L0) (inLit (LY.n1263 L0) qk6.1 qk6.2 (by decide)) rfl) ?_
      refine r_icmp_ne (tgt := 176) rfl rfl (fun qc7 => ?_) (fun qc7 => ?_)
      · rw [if_pos qc7] at hf
        refine XS.go (s_iconst (v := 0) rfl rfl) ?_
        exact XR.forget (L2 := [some (.ref 1262), some (.int x1), some (.int x2), some (.int x3), none, some (.int x5), some (.int x6), some (.int x7), none, some (.int x9)]) ⟨rfl, ⟨rfl, ⟨rfl, ⟨rfl, ⟨rfl, ⟨rfl, ⟨rfl, ⟨rfl, trivial⟩⟩⟩⟩⟩⟩⟩⟩ (kb_m_find_177 hK67 hK136 L0 hf)
      · rw [if_neg qc7] at hf
        refine XS.go (s_iconst (v := 1) rfl rfl) ?_
        refine XS.go (s_goto (tgt := 177) rfl rfl) ?_
        exact XR.forget (L2 := [some (.ref 1262), some (.int x1), some (.int x2), some (.int x3), none, some (.int x5), some (.int x6), some (.int x7), none, some (.int x9)]) ⟨rfl, ⟨rfl, ⟨rfl, ⟨rfl, ⟨rfl, ⟨rfl, ⟨rfl, ⟨rfl, trivial⟩⟩⟩⟩⟩⟩⟩⟩ (kb_m_find_177 hK67 hK136 L0 hf)
def b_m_find_136 (K67 : Int32 → Int32 → Int32 → Int32 → Int32 → XH → Option (Int32 × XH)) : Nat → Int32 → Int32 → Int32 → Int32 → Int32 → Int32 → Int32 → Int32 → XH → Option (Int32 × XH)
  | 0, _, _, _, _, _, _, _, _, _ => none
  | n + 1, x1, x2, x3, x5, x6, x7, x8, x9, h => s_m_find_136 K67 (b_m_find_136 K67 n) x1 x2 x3 x5 x6 x7 x8 x9 h
theorem kb_m_find_136 {l : Launch} {G : XG} {d : Nat} {K67 : Int32 → Int32 → Int32 → Int32 → Int32 → XH → Option (Int32 × XH)} {n : Nat} {x1 : Int32} {x2 : Int32} {x3 : Int32} {x5 : Int32} {x6 : Int32} {x7 : Int32} {x8 : Int32} {x9 : Int32} {h : XH} {r : Int32 × XH} (hK67 : ∀ (x1 : Int32) (x2 : Int32) (x3 : Int32) (x5 : Int32) (x6 : Int32) (h : XH), LY h → K67 x1 x2 x3 x5 x6 h = some r → XR l G xEX12_find (d + 1) (67, [some (.ref 1262), some (.int x1), some (.int x2), some (.int x3), none, some (.int x5), some (.int x6), none, none, none], [], h) (fun C => ∃ v, xRet xEX12_find C v ∧ (C.2.2.2 = r.2 ∧ v = some (.int r.1)) ∧ LY r.2)) (L0 : LY h) (hf : b_m_find_136 K67 n x1 x2 x3 x5 x6 x7 x8 x9 h = some r) : XR l G xEX12_find (d + 1) (136, [some (.ref 1262), some (.int x1), some (.int x2), some (.int x3), none, some (.int x5), some (.int x6), some (.int x7), some (.int x8), some (.int x9)], [], h) (fun C => ∃ v, xRet xEX12_find C v ∧ (C.2.2.2 = r.2 ∧ v = some (.int r.1)) ∧ LY r.2) := by
  induction n generalizing x1 x2 x3 x5 x6 x7 x8 x9 h with
  | zero => cases hf
  | succ n ih => exact ks_m_find_136 hK67 (fun x1 x2 x3 x5 x6 x7 x8 x9 h L0 hf => ih (h := h) (x1 := x1) (x2 := x2) (x3 := x3) (x5 := x5) (x6 := x6) (x7 := x7) (x8 := x8) (x9 := x9) L0 hf) L0 hf
def b_m_find_131 (K67 : Int32 → Int32 → Int32 → Int32 → Int32 → XH → Option (Int32 × XH)) (x1 : Int32) (x2 : Int32) (x3 : Int32) (x5 : Int32) (x6 : Int32) (x7 : Int32) (y0 : Int32) (h : XH) : Option (Int32 × XH) := (b_m_find_136 K67 100000 x1 x2 x3 x5 x6 x7 y0 0 h)
set_option maxRecDepth 20000 in
theorem kb_m_find_131 {l : Launch} {G : XG} {d : Nat} {K67 : Int32 → Int32 → Int32 → Int32 → Int32 → XH → Option (Int32 × XH)} {x1 : Int32} {x2 : Int32} {x3 : Int32} {x5 : Int32} {x6 : Int32} {x7 : Int32} {y0 : Int32} {h : XH} {r : Int32 × XH} (hK67 : ∀ (x1 : Int32) (x2 : Int32) (x3 : Int32) (x5 : Int32) (x6 : Int32) (h : XH), LY h → K67 x1 x2 x3 x5 x6 h = some r → XR l G xEX12_find (d + 1) (67, [some (.ref 1262), some (.int x1), some (.int x2), some (.int x3), none, some (.int x5), some (.int x6), none, none, none], [], h) (fun C => ∃ v, xRet xEX12_find C v ∧ (C.2.2.2 = r.2 ∧ v = some (.int r.1)) ∧ LY r.2)) (L0 : LY h) (hf : b_m_find_131 K67 x1 x2 x3 x5 x6 x7 y0 h = some r) : XR l G xEX12_find (d + 1) (131, [some (.ref 1262), some (.int x1), some (.int x2), some (.int x3), none, some (.int x5), some (.int x6), some (.int x7), none, none], [(.int y0)], h) (fun C => ∃ v, xRet xEX12_find C v ∧ (C.2.2.2 = r.2 ∧ v = some (.int r.1)) ∧ LY r.2) := by
  unfold b_m_find_131 at hf
  refine XS.go (s_istore rfl (Nat.le_of_ble_eq_true rfl)) ?_
  refine XS.go (s_iconst (v := 0) rfl rfl) ?_
  refine XS.go (s_istore rfl (Nat.le_of_ble_eq_true rfl)) ?_
  exact XR.forget (L2 := [some (.ref 1262), some (.int x1), some (.int x2), some (.int x3), none, some (.int x5), some (.int x6), some (.int x7), some (.int y0), some (.int 0)]) ⟨rfl, ⟨rfl, ⟨rfl, ⟨rfl, ⟨rfl, ⟨rfl, ⟨rfl, ⟨rfl, ⟨rfl, trivial⟩⟩⟩⟩⟩⟩⟩⟩⟩ (kb_m_find_136 hK67 L0 hf)
def b_m_find_105 (K67 : Int32 → Int32 → Int32 → Int32 → Int32 → XH → Option (Int32 × XH)) (x1 : Int32) (x2 : Int32) (x3 : Int32) (x5 : Int32) (x6 : Int32) (y0 : Int32) (h : XH) : Option (Int32 × XH) := (if 0 ≤ y0 ∧ y0 < nI 4001 then (if ¬ ((hi h 1268 (Int32.toNatClampNeg y0)) - (hi h 1267 (Int32.toNatClampNeg y0))) = x3 then (b_m_find_131 K67 x1 x2 x3 x5 x6 y0 0 h) else (b_m_find_131 K67 x1 x2 x3 x5 x6 y0 1 h)) else none)
set_option maxRecDepth 20000 in
theorem kb_m_find_105 {l : Launch} {G : XG} {d : Nat} {K67 : Int32 → Int32 → Int32 → Int32 → Int32 → XH → Option (Int32 × XH)} {x1 : Int32} {x2 : Int32} {x3 : Int32} {x5 : Int32} {x6 : Int32} {y0 : Int32} {h : XH} {r : Int32 × XH} (hK67 : ∀ (x1 : Int32) (x2 : Int32) (x3 : Int32) (x5 : Int32) (x6 : Int32) (h : XH), LY h → K67 x1 x2 x3 x5 x6 h = some r → XR l G xEX12_find (d + 1) (67, [some (.ref 1262), some (.int x1), some (.int x2), some (.int x3), none, some (.int x5), some (.int x6), none, none, none], [], h) (fun C => ∃ v, xRet xEX12_find C v ∧ (C.2.2.2 = r.2 ∧ v = some (.int r.1)) ∧ LY r.2)) (L0 : LY h) (hf : b_m_find_105 K67 x1 x2 x3 x5 x6 y0 h = some r) : XR l G xEX12_find (d + 1) (105, [some (.ref 1262), some (.int x1), some (.int x2), some (.int x3), none, some (.int x5), some (.int x6), none, none, none], [(.int y0)], h) (fun C => ∃ v, xRet xEX12_find C v ∧ (C.2.2.2 = r.2 ∧ v = some (.int r.1)) ∧ LY r.2) := by
  unfold b_m_find_105 at hf
  refine XS.go (s_istore rfl (Nat.le_of_ble_eq_true rfl)) ?_
  refine XS.go (s_aloadn rfl rfl rfl) ?_
  refine XS.go (s_getr rfl xf12_25 (LY.lt L0 (by decide)) (LY.k1262 L0) (by decide) rfl (LY.r1262_10 L0)) ?_
  refine XS.go (s_iload rfl rfl) ?_
  by_cases qk8 : 0 ≤ y0 ∧ y0 < nI 4001
  rotate_left
  · rw [if_neg qk8] at hf; cases hf
  rw [if_pos qk8] at hf
  refine XS.go (s_ialde rfl (LY.lt L0 (by decide)) (LY.k1268 L0) (inLit (LY.n1268 L0) qk8.1 qk8.2 (by decide)) rfl) ?_
  refine XS.go (s_aloadn rfl rfl rfl) ?_
  refine XS.go (s_getr rfl xf12_22 (LY.lt L0 (by decide)) (LY.k1262 L0) (by decide) rfl (LY.r1262_9 L0)) ?_
  refine XS.go (s_iload rfl rfl) ?_
  refine XS.go (s_ialde rfl (LY.lt L0 (by decide)) (LY.k1267 L0) (inLit (LY.n1267 L0) qk8.1 qk8.2 (by decide)) rfl) ?_
  refine XS.go (s_isub rfl) ?_
  refine XS.go (s_iloadn rfl rfl rfl) ?_
  refine r_icmp_ne (tgt := 130) rfl rfl (fun qc9 => ?_) (fun qc9 => ?_)
  · rw [if_pos qc9] at hf
    refine XS.go (s_iconst (v := 0) rfl rfl) ?_
    exact XR.forget (L2 := [some (.ref 1262), some (.int x1), some (.int x2), some (.int x3), none, some (.int x5), some (.int x6), some (.int y0), none, none]) ⟨rfl, ⟨rfl, ⟨rfl, ⟨rfl, ⟨rfl, ⟨rfl, ⟨rfl, trivial⟩⟩⟩⟩⟩⟩⟩ (kb_m_find_131 hK67 L0 hf)
  · rw [if_neg qc9] at hf
    refine XS.go (s_iconst (v := 1) rfl rfl) ?_
    refine XS.go (s_goto (tgt := 131) rfl rfl) ?_
    exact XR.forget (L2 := [some (.ref 1262), some (.int x1), some (.int x2), some (.int x3), none, some (.int x5), some (.int x6), some (.int y0), none, none]) ⟨rfl, ⟨rfl, ⟨rfl, ⟨rfl, ⟨rfl, ⟨rfl, ⟨rfl, trivial⟩⟩⟩⟩⟩⟩⟩ (kb_m_find_131 hK67 L0 hf)
def s_m_find_67 (K67 : Int32 → Int32 → Int32 → Int32 → Int32 → XH → Option (Int32 × XH)) (x1 : Int32) (x2 : Int32) (x3 : Int32) (x5 : Int32) (x6 : Int32) (h : XH) : Option (Int32 × XH) := (if x5 ≤ x6 then (some ((-1), h)) else (if x1 = 0 then (if 0 ≤ ((16 * x2) + x6) ∧ ((16 * x2) + x6) < nI 256 then (b_m_find_105 K67 x1 x2 x3 x5 x6 (hi h 1285 (Int32.toNatClampNeg ((16 * x2) + x6))) h) else none) else (if 0 ≤ ((12 * x2) + x6) ∧ ((12 * x2) + x6) < nI 144 then (b_m_find_105 K67 x1 x2 x3 x5 x6 (hi h 1276 (Int32.toNatClampNeg ((12 * x2) + x6))) h) else none)))
set_option maxRecDepth 20000 in
theorem ks_m_find_67 {l : Launch} {G : XG} {d : Nat} {K67 : Int32 → Int32 → Int32 → Int32 → Int32 → XH → Option (Int32 × XH)} {x1 : Int32} {x2 : Int32} {x3 : Int32} {x5 : Int32} {x6 : Int32} {h : XH} {r : Int32 × XH} (hK67 : ∀ (x1 : Int32) (x2 : Int32) (x3 : Int32) (x5 : Int32) (x6 : Int32) (h : XH), LY h → K67 x1 x2 x3 x5 x6 h = some r → XR l G xEX12_find (d + 1) (67, [some (.ref 1262), some (.int x1), some (.int x2), some (.int x3), none, some (.int x5), some (.int x6), none, none, none], [], h) (fun C => ∃ v, xRet xEX12_find C v ∧ (C.2.2.2 = r.2 ∧ v = some (.int r.1)) ∧ LY r.2)) (L0 : LY h) (hf : s_m_find_67 K67 x1 x2 x3 x5 x6 h = some r) : XR l G xEX12_find (d + 1) (67, [some (.ref 1262), some (.int x1), some (.int x2), some (.int x3), none, some (.int x5), some (.int x6), none, none, none], [], h) (fun C => ∃ v, xRet xEX12_find C v ∧ (C.2.2.2 = r.2 ∧ v = some (.int r.1)) ∧ LY r.2) := by
  unfold s_m_find_67 at hf
  refine XS.go (s_iload rfl rfl) ?_
  refine XS.go (s_iload rfl rfl) ?_
  refine r_icmp_ge (tgt := 199) rfl rfl (fun qc10 => ?_) (fun qc10 => ?_)
  · rw [if_pos qc10] at hf
    refine XS.go (s_iconst (v := (-1)) rfl rfl) ?_
    cases hf
    exact XR.reti rfl rfl (fun hret => ⟨_, hret, ⟨rfl, rfl⟩, L0⟩)
  · rw [if_neg qc10] at hf
    refine XS.go (s_iloadn rfl rfl rfl) ?_
    refine r_if_eq (tgt := 93) rfl rfl (fun qc11 => ?_) (fun qc11 => ?_)
    · rw [if_pos qc11] at hf
      refine XS.go (s_aloadn rfl rfl rfl) ?_
      refine XS.go (s_getr rfl xf12_76 (LY.lt L0 (by decide)) (LY.k1262 L0) (by decide) rfl (LY.r1262_34 L0)) ?_
      refine XS.go (s_bipush (v := 16) rfl rfl) ?_
      refine XS.go (s_iloadn rfl rfl rfl) ?_
      refine XS.go (s_imul rfl) ?_
      refine XS.go (s_iload rfl rfl) ?_
      refine XS.go (s_iadd rfl) ?_
      by_cases qk12 : 0 ≤ ((16 * x2) + x6) ∧ ((16 * x2) + x6) < nI 256
      rotate_left
      · rw [if_neg qk12] at hf; cases hf
      rw [if_pos qk12] at hf
      refine XS.go (s_ialde rfl (LY.lt L0 (by decide)) (LY.k1285 L0) (inLit (LY.n1285 L0) qk12.1 qk12.2 (by decide)) rfl) ?_
      exact XR.forget (L2 := [some (.ref 1262), some (.int x1), some (.int x2), some (.int x3), none, some (.int x5), some (.int x6), none, none, none]) ⟨rfl, ⟨rfl, ⟨rfl, ⟨rfl, ⟨rfl, ⟨rfl, trivial⟩⟩⟩⟩⟩⟩ (kb_m_find_105 hK67 L0 hf)
    · rw [if_neg qc11] at hf
      refine XS.go (s_aloadn rfl rfl rfl) ?_
      refine XS.go (s_getr rfl xf12_49 (LY.lt L0 (by decide)) (LY.k1262 L0) (by decide) rfl (LY.r1262_24 L0)) ?_
      refine XS.go (s_bipush (v := 12) rfl rfl) ?_
      refine XS.go (s_iloadn rfl rfl rfl) ?_
      refine XS.go (s_imul rfl) ?_
      refine XS.go (s_iload rfl rfl) ?_
      refine XS.go (s_iadd rfl) ?_
      by_cases qk13 : 0 ≤ ((12 * x2) + x6) ∧ ((12 * x2) + x6) < nI 144
      rotate_left
      · rw [if_neg qk13] at hf; cases hf
      rw [if_pos qk13] at hf
      refine XS.go (s_ialde rfl (LY.lt L0 (by decide)) (LY.k1276 L0) (inLit (LY.n1276 L0) qk13.1 qk13.2 (by decide)) rfl) ?_
      refine XS.go (s_goto (tgt := 105) rfl rfl) ?_
      exact XR.forget (L2 := [some (.ref 1262), some (.int x1), some (.int x2), some (.int x3), none, some (.int x5), some (.int x6), none, none, none]) ⟨rfl, ⟨rfl, ⟨rfl, ⟨rfl, ⟨rfl, ⟨rfl, trivial⟩⟩⟩⟩⟩⟩ (kb_m_find_105 hK67 L0 hf)
def b_m_find_67 : Nat → Int32 → Int32 → Int32 → Int32 → Int32 → XH → Option (Int32 × XH)
  | 0, _, _, _, _, _, _ => none
  | n + 1, x1, x2, x3, x5, x6, h => s_m_find_67 (b_m_find_67 n) x1 x2 x3 x5 x6 h
theorem kb_m_find_67 {l : Launch} {G : XG} {d : Nat} {n : Nat} {x1 : Int32} {x2 : Int32} {x3 : Int32} {x5 : Int32} {x6 : Int32} {h : XH} {r : Int32 × XH} (L0 : LY h) (hf : b_m_find_67 n x1 x2 x3 x5 x6 h = some r) : XR l G xEX12_find (d + 1) (67, [some (.ref 1262), some (.int x1), some (.int x2), some (.int x3), none, some (.int x5), some (.int x6), none, none, none], [], h) (fun C => ∃ v, xRet xEX12_find C v ∧ (C.2.2.2 = r.2 ∧ v = some (.int r.1)) ∧ LY r.2) := by
  induction n generalizing x1 x2 x3 x5 x6 h with
  | zero => cases hf
  | succ n ih => exact ks_m_find_67 (fun x1 x2 x3 x5 x6 h L0 hf => ih (h := h) (x1 := x1) (x2 := x2) (x3 := x3) (x5 := x5) (x6 := x6) L0 hf) L0 hf
def b_m_find_62 (x1 : Int32) (x2 : Int32) (x3 : Int32) (y0 : Int32) (h : XH) : Option (Int32 × XH) := (b_m_find_67 100000 x1 x2 x3 y0 0 h)
set_option maxRecDepth 20000 in
theorem kb_m_find_62 {l : Launch} {G : XG} {d : Nat} {x1 : Int32} {x2 : Int32} {x3 : Int32} {y0 : Int32} {h : XH} {r : Int32 × XH} (L0 : LY h) (hf : b_m_find_62 x1 x2 x3 y0 h = some r) : XR l G xEX12_find (d + 1) (62, [some (.ref 1262), some (.int x1), some (.int x2), some (.int x3), none, none, none, none, none, none], [(.int y0)], h) (fun C => ∃ v, xRet xEX12_find C v ∧ (C.2.2.2 = r.2 ∧ v = some (.int r.1)) ∧ LY r.2) := by
  unfold b_m_find_62 at hf
  refine XS.go (s_istore rfl (Nat.le_of_ble_eq_true rfl)) ?_
  refine XS.go (s_iconst (v := 0) rfl rfl) ?_
  refine XS.go (s_istore rfl (Nat.le_of_ble_eq_true rfl)) ?_
  exact XR.forget (L2 := [some (.ref 1262), some (.int x1), some (.int x2), some (.int x3), none, some (.int y0), some (.int 0), none, none, none]) ⟨rfl, ⟨rfl, ⟨rfl, ⟨rfl, ⟨rfl, ⟨rfl, trivial⟩⟩⟩⟩⟩⟩ (kb_m_find_67 L0 hf)
def b_m_find_32 (x1 : Int32) (x2 : Int32) (x3 : Int32) (y0 : Int32) (h : XH) : Option (Int32 × XH) := (if ¬ y0 = 0 then (if x1 = 0 then (if 0 ≤ x2 ∧ x2 < nI 16 then (b_m_find_62 x1 x2 x3 (hi h 1283 (Int32.toNatClampNeg x2)) h) else none) else (if 0 ≤ x2 ∧ x2 < nI 12 then (b_m_find_62 x1 x2 x3 (hi h 1273 (Int32.toNatClampNeg x2)) h) else none)) else (b_m_find_62 x1 x2 x3 0 h))
set_option maxRecDepth 20000 in
theorem kb_m_find_32 {l : Launch} {G : XG} {d : Nat} {x1 : Int32} {x2 : Int32} {x3 : Int32} {y0 : Int32} {h : XH} {r : Int32 × XH} (L0 : LY h) (hf : b_m_find_32 x1 x2 x3 y0 h = some r) : XR l G xEX12_find (d + 1) (32, [some (.ref 1262), some (.int x1), some (.int x2), some (.int x3), none, none, none, none, none, none], [(.int y0)], h) (fun C => ∃ v, xRet xEX12_find C v ∧ (C.2.2.2 = r.2 ∧ v = some (.int r.1)) ∧ LY r.2) := by
  unfold b_m_find_32 at hf
  refine XS.go (s_istore rfl (Nat.le_of_ble_eq_true rfl)) ?_
  refine XS.go (s_iload rfl rfl) ?_
  refine r_if_ne (tgt := 43) rfl rfl (fun qc14 => ?_) (fun qc14 => ?_)
  · rw [if_pos qc14] at hf
    refine XS.go (s_iloadn rfl rfl rfl) ?_
    refine r_if_eq (tgt := 56) rfl rfl (fun qc15 => ?_) (fun qc15 => ?_)
    · rw [if_pos qc15] at hf
      refine XS.go (s_aloadn rfl rfl rfl) ?_
      refine XS.go (s_getr rfl xf12_70 (LY.lt L0 (by decide)) (LY.k1262 L0) (by decide) rfl (LY.r1262_32 L0)) ?_
      refine XS.go (s_iloadn rfl rfl rfl) ?_
      by_cases qk16 : 0 ≤ x2 ∧ x2 < nI 16
      rotate_left
      · rw [if_neg qk16] at hf; cases hf
      rw [if_pos qk16] at hf
      refine XS.go (s_ialde rfl (LY.lt L0 (by decide)) (LY.k1283 L0) (inLit (LY.n1283 L0) qk16.1 qk16.2 (by decide)) rfl) ?_
      exact XR.forget (L2 := [some (.ref 1262), some (.int x1), some (.int x2), some (.int x3), none, none, none, none, none, none]) ⟨rfl, ⟨rfl, ⟨rfl, ⟨rfl, trivial⟩⟩⟩⟩ (kb_m_find_62 L0 hf)
    · rw [if_neg qc15] at hf
      refine XS.go (s_aloadn rfl rfl rfl) ?_
      refine XS.go (s_getr rfl xf12_40 (LY.lt L0 (by decide)) (LY.k1262 L0) (by decide) rfl (LY.r1262_21 L0)) ?_
      refine XS.go (s_iloadn rfl rfl rfl) ?_
      by_cases qk17 : 0 ≤ x2 ∧ x2 < nI 12
      rotate_left
      · rw [if_neg qk17] at hf; cases hf
      rw [if_pos qk17] at hf
      refine XS.go (s_ialde rfl (LY.lt L0 (by decide)) (LY.k1273 L0) (inLit (LY.n1273 L0) qk17.1 qk17.2 (by decide)) rfl) ?_
      refine XS.go (s_goto (tgt := 62) rfl rfl) ?_
      exact XR.forget (L2 := [some (.ref 1262), some (.int x1), some (.int x2), some (.int x3), none, none, none, none, none, none]) ⟨rfl, ⟨rfl, ⟨rfl, ⟨rfl, trivial⟩⟩⟩⟩ (kb_m_find_62 L0 hf)
  · rw [if_neg qc14] at hf
    refine XS.go (s_iconst (v := 0) rfl rfl) ?_
    refine XS.go (s_goto (tgt := 62) rfl rfl) ?_
    exact XR.forget (L2 := [some (.ref 1262), some (.int x1), some (.int x2), some (.int x3), none, none, none, none, none, none]) ⟨rfl, ⟨rfl, ⟨rfl, ⟨rfl, trivial⟩⟩⟩⟩ (kb_m_find_62 L0 hf)
def f_m_find (a0 : Int32) (a1 : Int32) (h : XH) : Option (Int32 × XH) := (if a0 = 0 then (match f_m_isTable a1 (hsi (hsi h 1262 0 0) 1262 2 0) with | none => none | some r19 => (b_m_find_32 a0 a1 (hi h 1262 2) r19.1 r19.2)) else (match f_m_isStruct a1 (hsi (hsi h 1262 0 0) 1262 2 0) with | none => none | some r22 => (b_m_find_32 a0 a1 (hi h 1262 2) r22.1 r22.2)))
set_option maxRecDepth 20000 in
theorem kf_m_find {l : Launch} {G : XG} {d : Nat} {a0 : Int32} {a1 : Int32} {h : XH} {r : Int32 × XH} (L0 : LY h) (hf : f_m_find a0 a1 h = some r) : XC l G xEX12_find (d + 1) [.ref 1262, .int a0, .int a1] h (fun v h2 => (h2 = r.2 ∧ v = some (.int r.1)) ∧ LY r.2) := by
  refine XC.virt xvX12_find (Nat.le_of_ble_eq_true rfl) ?_
  unfold f_m_find at hf
  refine XS.go (s_aloadn rfl rfl rfl) ?_
  refine XS.go (s_iconst (v := 0) rfl rfl) ?_
  refine XS.go (s_puti rfl xf12_175 (LY.lt L0 (by decide)) (LY.k1262 L0) (by decide) rfl (Or.inl rfl)) ?_
  refine XS.go (s_aloadn rfl rfl rfl) ?_
  refine XS.go (s_getie rfl xf12_178 (LY.lt (by simp only [LY_si, LY_sj]; exact L0) (by decide)) (LY.k1262 (by simp only [LY_si, LY_sj]; exact L0)) (by decide) rfl (hi_hsi_nk (by decide))) ?_
  refine XS.go (s_istoren rfl rfl (Nat.le_of_ble_eq_true rfl)) ?_
  refine XS.go (s_aloadn rfl rfl rfl) ?_
  refine XS.go (s_iconst (v := 0) rfl rfl) ?_
  refine XS.go (s_puti rfl xf12_178 (LY.lt (by simp only [LY_si, LY_sj]; exact L0) (by decide)) (LY.k1262 (by simp only [LY_si, LY_sj]; exact L0)) (by decide) rfl (Or.inl rfl)) ?_
  refine XS.go (s_iloadn rfl rfl rfl) ?_
  refine r_if_eq (tgt := 27) rfl rfl (fun qc18 => ?_) (fun qc18 => ?_)
  · rw [if_pos qc18] at hf
    refine XS.go (s_aloadn rfl rfl rfl) ?_
    refine XS.go (s_iloadn rfl rfl rfl) ?_
    rcases e20 : f_m_isTable a1 (hsi (hsi h 1262 0 0) 1262 2 0) with _ | r19
    · rw [e20] at hf; cases hf
    rw [e20] at hf; dsimp only at hf
    refine r_callv rfl xvX12_isTable xm12_372 (kf_m_isTable (d := d) (by simp only [LY_si, LY_sj]; exact L0) e20) (LY.lt (by simp only [LY_si, LY_sj]; exact L0) (by decide)) (LY.k1262 (by simp only [LY_si, LY_sj]; exact L0)) (by decide) rfl rfl (by omega) (by decide) (Nat.le_of_ble_eq_true rfl) ?_
    rintro _ _ ⟨⟨rfl, rfl⟩, L21⟩
    exact XR.forget (L2 := [some (.ref 1262), some (.int a0), some (.int a1), some (.int (hi h 1262 2)), none, none, none, none, none, none]) ⟨rfl, ⟨rfl, ⟨rfl, ⟨rfl, trivial⟩⟩⟩⟩ (kb_m_find_32 L21 hf)
  · rw [if_neg qc18] at hf
    refine XS.go (s_aloadn rfl rfl rfl) ?_
    refine XS.go (s_iloadn rfl rfl rfl) ?_
    rcases e23 : f_m_isStruct a1 (hsi (hsi h 1262 0 0) 1262 2 0) with _ | r22
    · rw [e23] at hf; cases hf
    rw [e23] at hf; dsimp only at hf
    refine r_callv rfl xvX12_isStruct xm12_369 (kf_m_isStruct (d := d) (by simp only [LY_si, LY_sj]; exact L0) e23) (LY.lt (by simp only [LY_si, LY_sj]; exact L0) (by decide)) (LY.k1262 (by simp only [LY_si, LY_sj]; exact L0)) (by decide) rfl rfl (by omega) (by decide) (Nat.le_of_ble_eq_true rfl) ?_
    rintro _ _ ⟨⟨rfl, rfl⟩, L24⟩
    refine XS.go (s_goto (tgt := 32) rfl rfl) ?_
    exact XR.forget (L2 := [some (.ref 1262), some (.int a0), some (.int a1), some (.int (hi h 1262 2)), none, none, none, none, none, none]) ⟨rfl, ⟨rfl, ⟨rfl, ⟨rfl, trivial⟩⟩⟩⟩ (kb_m_find_32 L24 hf)
def f_m_push (a0 : Int64) (h : XH) : Option (Int32 × XH) := (if ¬ (hi h 1262 55) = 600 then (if 0 ≤ (hi h 1262 55) ∧ (hi h 1262 55) < nI 600 then (some (((hi h 1262 55) + 1), (hsi (hsj (hsi h 1262 0 0) 1298 (Int32.toNatClampNeg (hi h 1262 55)) a0) 1262 55 ((hi h 1262 55) + 1)))) else none) else (some ((-1), (hsi h 1262 0 0))))
set_option maxRecDepth 20000 in
theorem kf_m_push {l : Launch} {G : XG} {d : Nat} {a0 : Int64} {h : XH} {r : Int32 × XH} (L0 : LY h) (hf : f_m_push a0 h = some r) : XC l G xEX12_push d [.ref 1262, .long a0] h (fun v h2 => (h2 = r.2 ∧ v = some (.int r.1)) ∧ LY r.2) := by
  refine XC.virt xvX12_push (Nat.le_of_ble_eq_true rfl) ?_
  unfold f_m_push at hf
  refine XS.go (s_aloadn rfl rfl rfl) ?_
  refine XS.go (s_iconst (v := 0) rfl rfl) ?_
  refine XS.go (s_puti rfl xf12_175 (LY.lt L0 (by decide)) (LY.k1262 L0) (by decide) rfl (Or.inl rfl)) ?_
  refine XS.go (s_aloadn rfl rfl rfl) ?_
  refine XS.go (s_getie rfl xf12_379 (LY.lt (by simp only [LY_si, LY_sj]; exact L0) (by decide)) (LY.k1262 (by simp only [LY_si, LY_sj]; exact L0)) (by decide) rfl (hi_hsi_nk (by decide))) ?_
  refine XS.go (s_sipush (v := 600) rfl rfl) ?_
  refine r_icmp_ne (tgt := 17) rfl rfl (fun qc1 => ?_) (fun qc1 => ?_)
  · rw [if_pos qc1] at hf
    refine XS.go (s_aloadn rfl rfl rfl) ?_
    refine XS.go (s_getr rfl xf12_116 (LY.lt (by simp only [LY_si, LY_sj]; exact L0) (by decide)) (LY.k1262 (by simp only [LY_si, LY_sj]; exact L0)) (by decide) rfl (LY.r1262_54 (by simp only [LY_si, LY_sj]; exact L0))) ?_
    refine XS.go (s_aloadn rfl rfl rfl) ?_
    refine XS.go (s_getie rfl xf12_379 (LY.lt (by simp only [LY_si, LY_sj]; exact L0) (by decide)) (LY.k1262 (by simp only [LY_si, LY_sj]; exact L0)) (by decide) rfl (hi_hsi_nk (by decide))) ?_
    refine XS.go (s_lloadn rfl rfl rfl) ?_
    by_cases qk2 : 0 ≤ (hi h 1262 55) ∧ (hi h 1262 55) < nI 600
    rotate_left
    · rw [if_neg qk2] at hf; cases hf
    rw [if_pos qk2] at hf
    refine XS.go (s_last rfl (LY.lt (by simp only [LY_si, LY_sj]; exact L0) (by decide)) (LY.k1298 (by simp only [LY_si, LY_sj]; exact L0)) (inLit (LY.n1298 (by simp only [LY_si, LY_sj]; exact L0)) qk2.1 qk2.2 (by decide))) ?_
    refine XS.go (s_aloadn rfl rfl rfl) ?_
    refine XS.go (s_dup rfl rfl) ?_
    refine XS.go (s_getie rfl xf12_379 (LY.lt (by simp only [LY_si, LY_sj]; exact L0) (by decide)) (LY.k1262 (by simp only [LY_si, LY_sj]; exact L0)) (by decide) rfl ((congrFun hi_hsj _).trans (hi_hsi_nk (by decide)))) ?_
    refine XS.go (s_iconst (v := 1) rfl rfl) ?_
    refine XS.go (s_iadd rfl) ?_
    refine XS.go (s_puti rfl xf12_379 (LY.lt (by simp only [LY_si, LY_sj]; exact L0) (by decide)) (LY.k1262 (by simp only [LY_si, LY_sj]; exact L0)) (by decide) rfl (Or.inl rfl)) ?_
    refine XS.go (s_aloadn rfl rfl rfl) ?_
    refine XS.go (s_getie rfl xf12_379 (LY.lt (by simp only [LY_si, LY_sj]; exact L0) (by decide)) (LY.k1262 (by simp only [LY_si, LY_sj]; exact L0)) (by decide) rfl hi_hsi_eq) ?_
    cases hf
    exact XR.reti rfl rfl (fun hret => ⟨_, hret, ⟨rfl, rfl⟩, (by simp only [LY_si, LY_sj]; exact L0)⟩)
  · rw [if_neg qc1] at hf
    refine XS.go (s_iconst (v := (-1)) rfl rfl) ?_
    cases hf
    exact XR.reti rfl rfl (fun hret => ⟨_, hret, ⟨rfl, rfl⟩, (by simp only [LY_si, LY_sj]; exact L0)⟩)
def s_m_fill_3 (K3 : Int32 → Int32 → Int32 → Int32 → XH → Option (Int32 × XH)) (x1 : Int32) (x2 : Int32) (x3 : Int32) (x4 : Int32) (h : XH) : Option (Int32 × XH) := (if ¬ x3 = 0 then (if (((x1 + x4) + x2) - ((x1 + x4) + x2) / x3 * x3) = 0 then (some (x4, h)) else (K3 x1 x2 x3 (x4 + 1) h)) else none)
set_option maxRecDepth 20000 in
theorem ks_m_fill_3 {l : Launch} {G : XG} {d : Nat} {K3 : Int32 → Int32 → Int32 → Int32 → XH → Option (Int32 × XH)} {x1 : Int32} {x2 : Int32} {x3 : Int32} {x4 : Int32} {h : XH} {r : Int32 × XH} (hK3 : ∀ (x1 : Int32) (x2 : Int32) (x3 : Int32) (x4 : Int32) (h : XH), LY h → K3 x1 x2 x3 x4 h = some r → XR l G xEX12_fill d (3, [none, some (.int x1), some (.int x2), some (.int x3), some (.int x4)], [], h) (fun C => ∃ v, xRet xEX12_fill C v ∧ (C.2.2.2 = r.2 ∧ v = some (.int r.1)) ∧ LY r.2)) (L0 : LY h) (hf : s_m_fill_3 K3 x1 x2 x3 x4 h = some r) : XR l G xEX12_fill d (3, [none, some (.int x1), some (.int x2), some (.int x3), some (.int x4)], [], h) (fun C => ∃ v, xRet xEX12_fill C v ∧ (C.2.2.2 = r.2 ∧ v = some (.int r.1)) ∧ LY r.2) := by
  unfold s_m_fill_3 at hf
  refine XS.go (s_iloadn rfl rfl rfl) ?_
  refine XS.go (s_iload rfl rfl) ?_
  refine XS.go (s_iadd rfl) ?_
  refine XS.go (s_iloadn rfl rfl rfl) ?_
  refine XS.go (s_iadd rfl) ?_
  refine XS.go (s_iloadn rfl rfl rfl) ?_
  by_cases qk1 : ¬ x3 = 0
  rotate_left
  · rw [if_neg qk1] at hf; cases hf
  rw [if_pos qk1] at hf
  refine XS.go (s_irem qk1 rfl) ?_
  refine r_if_eq (tgt := 20) rfl rfl (fun qc2 => ?_) (fun qc2 => ?_)
  · rw [if_pos qc2] at hf
    refine XS.go (s_iload rfl rfl) ?_
    cases hf
    exact XR.reti rfl rfl (fun hret => ⟨_, hret, ⟨rfl, rfl⟩, L0⟩)
  · rw [if_neg qc2] at hf
    refine XS.go (s_inc rfl rfl (Nat.le_of_ble_eq_true rfl)) ?_
    refine XS.go (s_goto (tgt := 3) rfl rfl) ?_
    exact XR.forget (L2 := [none, some (.int x1), some (.int x2), some (.int x3), some (.int (x4 + 1))]) ⟨rfl, ⟨rfl, ⟨rfl, ⟨rfl, trivial⟩⟩⟩⟩ (hK3 x1 x2 x3 (x4 + 1) _ L0 hf)
def b_m_fill_3 : Nat → Int32 → Int32 → Int32 → Int32 → XH → Option (Int32 × XH)
  | 0, _, _, _, _, _ => none
  | n + 1, x1, x2, x3, x4, h => s_m_fill_3 (b_m_fill_3 n) x1 x2 x3 x4 h
theorem kb_m_fill_3 {l : Launch} {G : XG} {d : Nat} {n : Nat} {x1 : Int32} {x2 : Int32} {x3 : Int32} {x4 : Int32} {h : XH} {r : Int32 × XH} (L0 : LY h) (hf : b_m_fill_3 n x1 x2 x3 x4 h = some r) : XR l G xEX12_fill d (3, [none, some (.int x1), some (.int x2), some (.int x3), some (.int x4)], [], h) (fun C => ∃ v, xRet xEX12_fill C v ∧ (C.2.2.2 = r.2 ∧ v = some (.int r.1)) ∧ LY r.2) := by
  induction n generalizing x1 x2 x3 x4 h with
  | zero => cases hf
  | succ n ih => exact ks_m_fill_3 (fun x1 x2 x3 x4 h L0 hf => ih (h := h) (x1 := x1) (x2 := x2) (x3 := x3) (x4 := x4) L0 hf) L0 hf
def f_m_fill (a0 : Int32) (a1 : Int32) (a2 : Int32) (h : XH) : Option (Int32 × XH) := (b_m_fill_3 100000 a0 a1 a2 0 h)
set_option maxRecDepth 20000 in
theorem kf_m_fill {l : Launch} {G : XG} {d : Nat} {a0 : Int32} {a1 : Int32} {a2 : Int32} {h : XH} {r : Int32 × XH} (L0 : LY h) (hf : f_m_fill a0 a1 a2 h = some r) : XC l G xEX12_fill d [.ref 1262, .int a0, .int a1, .int a2] h (fun v h2 => (h2 = r.2 ∧ v = some (.int r.1)) ∧ LY r.2) := by
  refine XC.virt xvX12_fill (Nat.le_of_ble_eq_true rfl) ?_
  unfold f_m_fill at hf
  refine XS.go (s_iconst (v := 0) rfl rfl) ?_
  refine XS.go (s_istore rfl (Nat.le_of_ble_eq_true rfl)) ?_
  exact XR.forget (L2 := [none, some (.int a0), some (.int a1), some (.int a2), some (.int 0)]) ⟨rfl, ⟨rfl, ⟨rfl, ⟨rfl, trivial⟩⟩⟩⟩ (kb_m_fill_3 L0 hf)
def s_m_ahead_5 (K5 : Int64 → Int32 → XH → Option (Unit × XH)) (x1 : Int64) (x4 : Int32) (h : XH) : Option (Unit × XH) := (if x4 < 0 then (some ((), h)) else (if 0 ≤ (hi h 1262 57) ∧ (hi h 1262 57) < nI 4300 then (K5 x1 (x4 + (-1)) (hsi (hsi h 1299 (Int32.toNatClampNeg (hi h 1262 57)) (Int64.toInt32 ((x1 >>> ((Int32.toInt64 (8 * x4)) &&& 63)) &&& 255))) 1262 57 ((hi h 1262 57) + 1))) else none))
set_option maxRecDepth 20000 in
theorem ks_m_ahead_5 {l : Launch} {G : XG} {d : Nat} {K5 : Int64 → Int32 → XH → Option (Unit × XH)} {x1 : Int64} {x4 : Int32} {h : XH} {r : Unit × XH} (hK5 : ∀ (x1 : Int64) (x4 : Int32) (h : XH), LY h → K5 x1 x4 h = some r → XR l G xEX12_ahead d (5, [some (.ref 1262), some (.long x1), none, none, some (.int x4)], [], h) (fun C => ∃ v, xRet xEX12_ahead C v ∧ (C.2.2.2 = r.2 ∧ v = none) ∧ LY r.2)) (L0 : LY h) (hf : s_m_ahead_5 K5 x1 x4 h = some r) : XR l G xEX12_ahead d (5, [some (.ref 1262), some (.long x1), none, none, some (.int x4)], [], h) (fun C => ∃ v, xRet xEX12_ahead C v ∧ (C.2.2.2 = r.2 ∧ v = none) ∧ LY r.2) := by
  unfold s_m_ahead_5 at hf
  refine XS.go (s_iload rfl rfl) ?_
  refine r_if_lt (tgt := 47) rfl rfl (fun qc1 => ?_) (fun qc1 => ?_)
  · rw [if_pos qc1] at hf
    cases hf
    exact XR.retv rfl rfl (fun hret => ⟨_, hret, ⟨rfl, rfl⟩, L0⟩)
  · rw [if_neg qc1] at hf
    refine XS.go (s_aloadn rfl rfl rfl) ?_
    refine XS.go (s_getr rfl xf12_119 (LY.lt L0 (by decide)) (LY.k1262 L0) (by decide) rfl (LY.r1262_56 L0)) ?_
    refine XS.go (s_aloadn rfl rfl rfl) ?_
    refine XS.go (s_getie rfl xf12_382 (LY.lt L0 (by decide)) (LY.k1262 L0) (by decide) rfl rfl) ?_
    refine XS.go (s_lloadn rfl rfl rfl) ?_
    refine XS.go (s_bipush (v := 8) rfl rfl) ?_
    refine XS.go (s_iload rfl rfl) ?_
    refine XS.go (s_imul rfl) ?_
    refine XS.go (s_lshr rfl) ?_
    refine XS.go (s_ldc2 rfl (lg_9 83 rfl rfl)) ?_
    refine XS.go (s_land rfl) ?_
    refine XS.go (s_l2i rfl) ?_
    by_cases qk2 : 0 ≤ (hi h 1262 57) ∧ (hi h 1262 57) < nI 4300
    rotate_left
    · rw [if_neg qk2] at hf; cases hf
    rw [if_pos qk2] at hf
    refine XS.go (s_iast rfl (LY.lt L0 (by decide)) (LY.k1299 L0) (inLit (LY.n1299 L0) qk2.1 qk2.2 (by decide))) ?_
    refine XS.go (s_aloadn rfl rfl rfl) ?_
    refine XS.go (s_dup rfl rfl) ?_
    refine XS.go (s_getie rfl xf12_382 (LY.lt (by simp only [LY_si, LY_sj]; exact L0) (by decide)) (LY.k1262 (by simp only [LY_si, LY_sj]; exact L0)) (by decide) rfl (hi_hsi_na (by decide))) ?_
    refine XS.go (s_iconst (v := 1) rfl rfl) ?_
    refine XS.go (s_iadd rfl) ?_
    refine XS.go (s_puti rfl xf12_382 (LY.lt (by simp only [LY_si, LY_sj]; exact L0) (by decide)) (LY.k1262 (by simp only [LY_si, LY_sj]; exact L0)) (by decide) rfl (Or.inl rfl)) ?_
    refine XS.go (s_dec rfl rfl (Nat.le_of_ble_eq_true rfl)) ?_
    refine XS.go (s_goto (tgt := 5) rfl rfl) ?_
    exact XR.forget (L2 := [some (.ref 1262), some (.long x1), none, none, some (.int (x4 + (-1)))]) ⟨rfl, ⟨rfl, ⟨rfl, trivial⟩⟩⟩ (hK5 x1 (x4 + (-1)) _ (by simp only [LY_si, LY_sj]; exact L0) hf)
def b_m_ahead_5 : Nat → Int64 → Int32 → XH → Option (Unit × XH)
  | 0, _, _, _ => none
  | n + 1, x1, x4, h => s_m_ahead_5 (b_m_ahead_5 n) x1 x4 h
theorem kb_m_ahead_5 {l : Launch} {G : XG} {d : Nat} {n : Nat} {x1 : Int64} {x4 : Int32} {h : XH} {r : Unit × XH} (L0 : LY h) (hf : b_m_ahead_5 n x1 x4 h = some r) : XR l G xEX12_ahead d (5, [some (.ref 1262), some (.long x1), none, none, some (.int x4)], [], h) (fun C => ∃ v, xRet xEX12_ahead C v ∧ (C.2.2.2 = r.2 ∧ v = none) ∧ LY r.2) := by
  induction n generalizing x1 x4 h with
  | zero => cases hf
  | succ n ih => exact ks_m_ahead_5 (fun x1 x4 h L0 hf => ih (h := h) (x1 := x1) (x4 := x4) L0 hf) L0 hf
def f_m_ahead (a0 : Int64) (a1 : Int32) (h : XH) : Option (Unit × XH) := (b_m_ahead_5 100000 a0 (a1 - 1) h)
set_option maxRecDepth 20000 in
theorem kf_m_ahead {l : Launch} {G : XG} {d : Nat} {a0 : Int64} {a1 : Int32} {h : XH} {r : Unit × XH} (L0 : LY h) (hf : f_m_ahead a0 a1 h = some r) : XC l G xEX12_ahead d [.ref 1262, .long a0, .int a1] h (fun v h2 => (h2 = r.2 ∧ v = none) ∧ LY r.2) := by
  refine XC.virt xvX12_ahead (Nat.le_of_ble_eq_true rfl) ?_
  unfold f_m_ahead at hf
  refine XS.go (s_iloadn rfl rfl rfl) ?_
  refine XS.go (s_iconst (v := 1) rfl rfl) ?_
  refine XS.go (s_isub rfl) ?_
  refine XS.go (s_istore rfl (Nat.le_of_ble_eq_true rfl)) ?_
  exact XR.forget (L2 := [some (.ref 1262), some (.long a0), none, none, some (.int (a1 - 1))]) ⟨rfl, ⟨rfl, ⟨rfl, trivial⟩⟩⟩ (kb_m_ahead_5 L0 hf)
def s_m_zeros_2 (K2 : Int32 → Int32 → XH → Option (Unit × XH)) (x1 : Int32) (x2 : Int32) (h : XH) : Option (Unit × XH) := (if x1 ≤ x2 then (some ((), h)) else (if 0 ≤ (hi h 1262 57) ∧ (hi h 1262 57) < nI 4300 then (K2 x1 (x2 + 1) (hsi (hsi h 1299 (Int32.toNatClampNeg (hi h 1262 57)) 0) 1262 57 ((hi h 1262 57) + 1))) else none))
set_option maxRecDepth 20000 in
theorem ks_m_zeros_2 {l : Launch} {G : XG} {d : Nat} {K2 : Int32 → Int32 → XH → Option (Unit × XH)} {x1 : Int32} {x2 : Int32} {h : XH} {r : Unit × XH} (hK2 : ∀ (x1 : Int32) (x2 : Int32) (h : XH), LY h → K2 x1 x2 h = some r → XR l G xEX12_zeros d (2, [some (.ref 1262), some (.int x1), some (.int x2)], [], h) (fun C => ∃ v, xRet xEX12_zeros C v ∧ (C.2.2.2 = r.2 ∧ v = none) ∧ LY r.2)) (L0 : LY h) (hf : s_m_zeros_2 K2 x1 x2 h = some r) : XR l G xEX12_zeros d (2, [some (.ref 1262), some (.int x1), some (.int x2)], [], h) (fun C => ∃ v, xRet xEX12_zeros C v ∧ (C.2.2.2 = r.2 ∧ v = none) ∧ LY r.2) := by
  unfold s_m_zeros_2 at hf
  refine XS.go (s_iloadn rfl rfl rfl) ?_
  refine XS.go (s_iloadn rfl rfl rfl) ?_
  refine r_icmp_ge (tgt := 33) rfl rfl (fun qc1 => ?_) (fun qc1 => ?_)
  · rw [if_pos qc1] at hf
    cases hf
    exact XR.retv rfl rfl (fun hret => ⟨_, hret, ⟨rfl, rfl⟩, L0⟩)
  · rw [if_neg qc1] at hf
    refine XS.go (s_aloadn rfl rfl rfl) ?_
    refine XS.go (s_getr rfl xf12_119 (LY.lt L0 (by decide)) (LY.k1262 L0) (by decide) rfl (LY.r1262_56 L0)) ?_
    refine XS.go (s_aloadn rfl rfl rfl) ?_
    refine XS.go (s_getie rfl xf12_382 (LY.lt L0 (by decide)) (LY.k1262 L0) (by decide) rfl rfl) ?_
    refine XS.go (s_iconst (v := 0) rfl rfl) ?_
    by_cases qk2 : 0 ≤ (hi h 1262 57) ∧ (hi h 1262 57) < nI 4300
    rotate_left
    · rw [if_neg qk2] at hf; cases hf
    rw [if_pos qk2] at hf
    refine XS.go (s_iast rfl (LY.lt L0 (by decide)) (LY.k1299 L0) (inLit (LY.n1299 L0) qk2.1 qk2.2 (by decide))) ?_
    refine XS.go (s_aloadn rfl rfl rfl) ?_
    refine XS.go (s_dup rfl rfl) ?_
    refine XS.go (s_getie rfl xf12_382 (LY.lt (by simp only [LY_si, LY_sj]; exact L0) (by decide)) (LY.k1262 (by simp only [LY_si, LY_sj]; exact L0)) (by decide) rfl (hi_hsi_na (by decide))) ?_
    refine XS.go (s_iconst (v := 1) rfl rfl) ?_
    refine XS.go (s_iadd rfl) ?_
    refine XS.go (s_puti rfl xf12_382 (LY.lt (by simp only [LY_si, LY_sj]; exact L0) (by decide)) (LY.k1262 (by simp only [LY_si, LY_sj]; exact L0)) (by decide) rfl (Or.inl rfl)) ?_
    refine XS.go (s_inc rfl rfl (Nat.le_of_ble_eq_true rfl)) ?_
    refine XS.go (s_goto (tgt := 2) rfl rfl) ?_
    exact XR.forget (L2 := [some (.ref 1262), some (.int x1), some (.int (x2 + 1))]) ⟨rfl, ⟨rfl, ⟨rfl, trivial⟩⟩⟩ (hK2 x1 (x2 + 1) _ (by simp only [LY_si, LY_sj]; exact L0) hf)
def b_m_zeros_2 : Nat → Int32 → Int32 → XH → Option (Unit × XH)
  | 0, _, _, _ => none
  | n + 1, x1, x2, h => s_m_zeros_2 (b_m_zeros_2 n) x1 x2 h
theorem kb_m_zeros_2 {l : Launch} {G : XG} {d : Nat} {n : Nat} {x1 : Int32} {x2 : Int32} {h : XH} {r : Unit × XH} (L0 : LY h) (hf : b_m_zeros_2 n x1 x2 h = some r) : XR l G xEX12_zeros d (2, [some (.ref 1262), some (.int x1), some (.int x2)], [], h) (fun C => ∃ v, xRet xEX12_zeros C v ∧ (C.2.2.2 = r.2 ∧ v = none) ∧ LY r.2) := by
  induction n generalizing x1 x2 h with
  | zero => cases hf
  | succ n ih => exact ks_m_zeros_2 (fun x1 x2 h L0 hf => ih (h := h) (x1 := x1) (x2 := x2) L0 hf) L0 hf
def f_m_zeros (a0 : Int32) (h : XH) : Option (Unit × XH) := (b_m_zeros_2 100000 a0 0 h)
set_option maxRecDepth 20000 in
theorem kf_m_zeros {l : Launch} {G : XG} {d : Nat} {a0 : Int32} {h : XH} {r : Unit × XH} (L0 : LY h) (hf : f_m_zeros a0 h = some r) : XC l G xEX12_zeros d [.ref 1262, .int a0] h (fun v h2 => (h2 = r.2 ∧ v = none) ∧ LY r.2) := by
  refine XC.virt xvX12_zeros (Nat.le_of_ble_eq_true rfl) ?_
  unfold f_m_zeros at hf
  refine XS.go (s_iconst (v := 0) rfl rfl) ?_
  refine XS.go (s_istoren rfl rfl (Nat.le_of_ble_eq_true rfl)) ?_
  exact XR.forget (L2 := [some (.ref 1262), some (.int a0), some (.int 0)]) ⟨rfl, ⟨rfl, ⟨rfl, trivial⟩⟩⟩ (kb_m_zeros_2 L0 hf)
def b_m_aligned_17 (y1 : Int32) (h : XH) : Option (Unit × XH) := (some ((), (hsi h 1262 58 y1)))
set_option maxRecDepth 20000 in
theorem kb_m_aligned_17 {l : Launch} {G : XG} {d : Nat} {y1 : Int32} {h : XH} {r : Unit × XH} (L0 : LY h) (hf : b_m_aligned_17 y1 h = some r) : XR l G xEX12_aligned d (17, [none, none], [(.int y1), (.ref 1262)], h) (fun C => ∃ v, xRet xEX12_aligned C v ∧ (C.2.2.2 = r.2 ∧ v = none) ∧ LY r.2) := by
  unfold b_m_aligned_17 at hf
  refine XS.go (s_puti rfl xf12_385 (LY.lt L0 (by decide)) (LY.k1262 L0) (by decide) rfl (Or.inl rfl)) ?_
  cases hf
  exact XR.retv rfl rfl (fun hret => ⟨_, hret, ⟨rfl, rfl⟩, (by simp only [LY_si, LY_sj]; exact L0)⟩)
def f_m_aligned (a0 : Int32) (h : XH) : Option (Unit × XH) := (if a0 ≤ (hi h 1262 58) then (b_m_aligned_17 (hi h 1262 58) h) else (b_m_aligned_17 a0 h))
set_option maxRecDepth 20000 in
theorem kf_m_aligned {l : Launch} {G : XG} {d : Nat} {a0 : Int32} {h : XH} {r : Unit × XH} (L0 : LY h) (hf : f_m_aligned a0 h = some r) : XC l G xEX12_aligned d [.ref 1262, .int a0] h (fun v h2 => (h2 = r.2 ∧ v = none) ∧ LY r.2) := by
  refine XC.virt xvX12_aligned (Nat.le_of_ble_eq_true rfl) ?_
  unfold f_m_aligned at hf
  refine XS.go (s_aloadn rfl rfl rfl) ?_
  refine XS.go (s_iloadn rfl rfl rfl) ?_
  refine XS.go (s_aloadn rfl rfl rfl) ?_
  refine XS.go (s_getie rfl xf12_385 (LY.lt L0 (by decide)) (LY.k1262 L0) (by decide) rfl rfl) ?_
  refine r_icmp_le (tgt := 13) rfl rfl (fun qc1 => ?_) (fun qc1 => ?_)
  · rw [if_pos qc1] at hf
    refine XS.go (s_aloadn rfl rfl rfl) ?_
    refine XS.go (s_getie rfl xf12_385 (LY.lt L0 (by decide)) (LY.k1262 L0) (by decide) rfl rfl) ?_
    exact XR.forget (L2 := [none, none]) trivial (kb_m_aligned_17 L0 hf)
  · rw [if_neg qc1] at hf
    refine XS.go (s_iloadn rfl rfl rfl) ?_
    refine XS.go (s_goto (tgt := 17) rfl rfl) ?_
    exact XR.forget (L2 := [none, none]) trivial (kb_m_aligned_17 L0 hf)
def f_m_thing (a0 : Int32) (a1 : Int32) (a2 : Int32) (h : XH) : Option (Int32 × XH) := (if 0 ≤ (hi h 1262 59) ∧ (hi h 1262 59) < nI 300 then (some ((((hi h 1262 59) + 1) - 1), (hsi (hsi (hsi (hsi (hsi h 1300 (Int32.toNatClampNeg (hi h 1262 59)) a0) 1301 (Int32.toNatClampNeg (hi h 1262 59)) a1) 1302 (Int32.toNatClampNeg (hi h 1262 59)) a2) 1303 (Int32.toNatClampNeg (hi h 1262 59)) (hi h 1262 57)) 1262 59 ((hi h 1262 59) + 1)))) else none)
set_option maxRecDepth 20000 in
theorem kf_m_thing {l : Launch} {G : XG} {d : Nat} {a0 : Int32} {a1 : Int32} {a2 : Int32} {h : XH} {r : Int32 × XH} (L0 : LY h) (hf : f_m_thing a0 a1 a2 h = some r) : XC l G xEX12_thing d [.ref 1262, .int a0, .int a1, .int a2] h (fun v h2 => (h2 = r.2 ∧ v = some (.int r.1)) ∧ LY r.2) := by
  refine XC.virt xvX12_thing (Nat.le_of_ble_eq_true rfl) ?_
  unfold f_m_thing at hf
  refine XS.go (s_aloadn rfl rfl rfl) ?_
  refine XS.go (s_getr rfl xf12_122 (LY.lt L0 (by decide)) (LY.k1262 L0) (by decide) rfl (LY.r1262_60 L0)) ?_
  refine XS.go (s_aloadn rfl rfl rfl) ?_
  refine XS.go (s_getie rfl xf12_388 (LY.lt L0 (by decide)) (LY.k1262 L0) (by decide) rfl rfl) ?_
  refine XS.go (s_iloadn rfl rfl rfl) ?_
  by_cases qk1 : 0 ≤ (hi h 1262 59) ∧ (hi h 1262 59) < nI 300
  rotate_left
  · rw [if_neg qk1] at hf; cases hf
  rw [if_pos qk1] at hf
  refine XS.go (s_iast rfl (LY.lt L0 (by decide)) (LY.k1300 L0) (inLit (LY.n1300 L0) qk1.1 qk1.2 (by decide))) ?_
  refine XS.go (s_aloadn rfl rfl rfl) ?_
  refine XS.go (s_getr rfl xf12_125 (LY.lt (by simp only [LY_si, LY_sj]; exact L0) (by decide)) (LY.k1262 (by simp only [LY_si, LY_sj]; exact L0)) (by decide) rfl (LY.r1262_61 (by simp only [LY_si, LY_sj]; exact L0))) ?_
  refine XS.go (s_aloadn rfl rfl rfl) ?_
  refine XS.go (s_getie rfl xf12_388 (LY.lt (by simp only [LY_si, LY_sj]; exact L0) (by decide)) (LY.k1262 (by simp only [LY_si, LY_sj]; exact L0)) (by decide) rfl (hi_hsi_na (by decide))) ?_
  refine XS.go (s_iloadn rfl rfl rfl) ?_
  refine XS.go (s_iast rfl (LY.lt (by simp only [LY_si, LY_sj]; exact L0) (by decide)) (LY.k1301 (by simp only [LY_si, LY_sj]; exact L0)) (inLit (LY.n1301 (by simp only [LY_si, LY_sj]; exact L0)) qk1.1 qk1.2 (by decide))) ?_
  refine XS.go (s_aloadn rfl rfl rfl) ?_
  refine XS.go (s_getr rfl xf12_128 (LY.lt (by simp only [LY_si, LY_sj]; exact L0) (by decide)) (LY.k1262 (by simp only [LY_si, LY_sj]; exact L0)) (by decide) rfl (LY.r1262_62 (by simp only [LY_si, LY_sj]; exact L0))) ?_
  refine XS.go (s_aloadn rfl rfl rfl) ?_
  refine XS.go (s_getie rfl xf12_388 (LY.lt (by simp only [LY_si, LY_sj]; exact L0) (by decide)) (LY.k1262 (by simp only [LY_si, LY_sj]; exact L0)) (by decide) rfl ((hi_hsi_na (by decide)).trans (hi_hsi_na (by decide)))) ?_
  refine XS.go (s_iloadn rfl rfl rfl) ?_
  refine XS.go (s_iast rfl (LY.lt (by simp only [LY_si, LY_sj]; exact L0) (by decide)) (LY.k1302 (by simp only [LY_si, LY_sj]; exact L0)) (inLit (LY.n1302 (by simp only [LY_si, LY_sj]; exact L0)) qk1.1 qk1.2 (by decide))) ?_
  refine XS.go (s_aloadn rfl rfl rfl) ?_
  refine XS.go (s_getr rfl xf12_131 (LY.lt (by simp only [LY_si, LY_sj]; exact L0) (by decide)) (LY.k1262 (by simp only [LY_si, LY_sj]; exact L0)) (by decide) rfl (LY.r1262_63 (by simp only [LY_si, LY_sj]; exact L0))) ?_
  refine XS.go (s_aloadn rfl rfl rfl) ?_
  refine XS.go (s_getie rfl xf12_388 (LY.lt (by simp only [LY_si, LY_sj]; exact L0) (by decide)) (LY.k1262 (by simp only [LY_si, LY_sj]; exact L0)) (by decide) rfl ((hi_hsi_na (by decide)).trans ((hi_hsi_na (by decide)).trans (hi_hsi_na (by decide))))) ?_
  refine XS.go (s_aloadn rfl rfl rfl) ?_
  refine XS.go (s_getie rfl xf12_382 (LY.lt (by simp only [LY_si, LY_sj]; exact L0) (by decide)) (LY.k1262 (by simp only [LY_si, LY_sj]; exact L0)) (by decide) rfl ((hi_hsi_na (by decide)).trans ((hi_hsi_na (by decide)).trans (hi_hsi_na (by decide))))) ?_
  refine XS.go (s_iast rfl (LY.lt (by simp only [LY_si, LY_sj]; exact L0) (by decide)) (LY.k1303 (by simp only [LY_si, LY_sj]; exact L0)) (inLit (LY.n1303 (by simp only [LY_si, LY_sj]; exact L0)) qk1.1 qk1.2 (by decide))) ?_
  refine XS.go (s_aloadn rfl rfl rfl) ?_
  refine XS.go (s_dup rfl rfl) ?_
  refine XS.go (s_getie rfl xf12_388 (LY.lt (by simp only [LY_si, LY_sj]; exact L0) (by decide)) (LY.k1262 (by simp only [LY_si, LY_sj]; exact L0)) (by decide) rfl ((hi_hsi_na (by decide)).trans ((hi_hsi_na (by decide)).trans ((hi_hsi_na (by decide)).trans (hi_hsi_na (by decide)))))) ?_
  refine XS.go (s_iconst (v := 1) rfl rfl) ?_
  refine XS.go (s_iadd rfl) ?_
  refine XS.go (s_puti rfl xf12_388 (LY.lt (by simp only [LY_si, LY_sj]; exact L0) (by decide)) (LY.k1262 (by simp only [LY_si, LY_sj]; exact L0)) (by decide) rfl (Or.inl rfl)) ?_
  refine XS.go (s_aloadn rfl rfl rfl) ?_
  refine XS.go (s_getie rfl xf12_388 (LY.lt (by simp only [LY_si, LY_sj]; exact L0) (by decide)) (LY.k1262 (by simp only [LY_si, LY_sj]; exact L0)) (by decide) rfl hi_hsi_eq) ?_
  refine XS.go (s_iconst (v := 1) rfl rfl) ?_
  refine XS.go (s_isub rfl) ?_
  cases hf
  exact XR.reti rfl rfl (fun hret => ⟨_, hret, ⟨rfl, rfl⟩, (by simp only [LY_si, LY_sj]; exact L0)⟩)
def f_m_reference (a0 : Int32) (h : XH) : Option (Unit × XH) := (if 0 ≤ a0 ∧ a0 < nI 300 then (match f_m_ahead (Int32.toInt64 (((hi h 1262 57) + 4) - (hi h 1303 (Int32.toNatClampNeg a0)))) 4 h with | none => none | some r2 => (some ((), r2.2))) else none)
set_option maxRecDepth 20000 in
theorem kf_m_reference {l : Launch} {G : XG} {d : Nat} {a0 : Int32} {h : XH} {r : Unit × XH} (L0 : LY h) (hf : f_m_reference a0 h = some r) : XC l G xEX12_reference (d + 1) [.ref 1262, .int a0] h (fun v h2 => (h2 = r.2 ∧ v = none) ∧ LY r.2) := by
  refine XC.virt xvX12_reference (Nat.le_of_ble_eq_true rfl) ?_
  unfold f_m_reference at hf
  refine XS.go (s_aloadn rfl rfl rfl) ?_
  refine XS.go (s_aloadn rfl rfl rfl) ?_
  refine XS.go (s_getie rfl xf12_382 (LY.lt L0 (by decide)) (LY.k1262 L0) (by decide) rfl rfl) ?_
  refine XS.go (s_iconst (v := 4) rfl rfl) ?_
  refine XS.go (s_iadd rfl) ?_
  refine XS.go (s_aloadn rfl rfl rfl) ?_
  refine XS.go (s_getr rfl xf12_131 (LY.lt L0 (by decide)) (LY.k1262 L0) (by decide) rfl (LY.r1262_63 L0)) ?_
  refine XS.go (s_iloadn rfl rfl rfl) ?_
  by_cases qk1 : 0 ≤ a0 ∧ a0 < nI 300
  rotate_left
  · rw [if_neg qk1] at hf; cases hf
  rw [if_pos qk1] at hf
  refine XS.go (s_ialde rfl (LY.lt L0 (by decide)) (LY.k1303 L0) (inLit (LY.n1303 L0) qk1.1 qk1.2 (by decide)) rfl) ?_
  refine XS.go (s_isub rfl) ?_
  refine XS.go (s_i2l rfl) ?_
  refine XS.go (s_iconst (v := 4) rfl rfl) ?_
  rcases e3 : f_m_ahead (Int32.toInt64 (((hi h 1262 57) + 4) - (hi h 1303 (Int32.toNatClampNeg a0)))) 4 h with _ | r2
  · rw [e3] at hf; cases hf
  rw [e3] at hf; dsimp only at hf
  refine r_callv rfl xvX12_ahead xm12_396 (kf_m_ahead (d := d) L0 e3) (LY.lt L0 (by decide)) (LY.k1262 L0) (by decide) rfl rfl (by omega) (by decide) (Nat.le_of_ble_eq_true rfl) ?_
  rintro _ _ ⟨⟨rfl, rfl⟩, L4⟩
  cases hf
  exact XR.retv rfl rfl (fun hret => ⟨_, hret, ⟨rfl, rfl⟩, L4⟩)
def s_m_text_92 (K92 : Int32 → Int32 → XH → Option (Int32 × XH)) (x1 : Int32) (x3 : Int32) (h : XH) : Option (Int32 × XH) := (if x3 < 0 then (match f_m_ahead (Int32.toInt64 x1) 4 h with | none => none | some r2 => (match f_m_thing 1 (-1) 0 r2.2 with | none => none | some r5 => (some (r5.1, r5.2)))) else (if 0 ≤ x3 ∧ x3 < nI 4000 then (match f_m_ahead (Int32.toInt64 (hi h 1263 (Int32.toNatClampNeg x3))) 1 h with | none => none | some r9 => (K92 x1 (x3 + (-1)) r9.2)) else none))
set_option maxRecDepth 20000 in
theorem ks_m_text_92 {l : Launch} {G : XG} {d : Nat} {K92 : Int32 → Int32 → XH → Option (Int32 × XH)} {x1 : Int32} {x3 : Int32} {h : XH} {r : Int32 × XH} (hK92 : ∀ (x1 : Int32) (x3 : Int32) (h : XH), LY h → K92 x1 x3 h = some r → XR l G xEX12_text (d + 1) (92, [some (.ref 1262), some (.int x1), none, some (.int x3)], [], h) (fun C => ∃ v, xRet xEX12_text C v ∧ (C.2.2.2 = r.2 ∧ v = some (.int r.1)) ∧ LY r.2)) (L0 : LY h) (hf : s_m_text_92 K92 x1 x3 h = some r) : XR l G xEX12_text (d + 1) (92, [some (.ref 1262), some (.int x1), none, some (.int x3)], [], h) (fun C => ∃ v, xRet xEX12_text C v ∧ (C.2.2.2 = r.2 ∧ v = some (.int r.1)) ∧ LY r.2) := by
  unfold s_m_text_92 at hf
  refine XS.go (s_iloadn rfl rfl rfl) ?_
  refine r_if_lt (tgt := 114) rfl rfl (fun qc1 => ?_) (fun qc1 => ?_)
  · rw [if_pos qc1] at hf
    refine XS.go (s_aloadn rfl rfl rfl) ?_
    refine XS.go (s_iloadn rfl rfl rfl) ?_
    refine XS.go (s_i2l rfl) ?_
    refine XS.go (s_iconst (v := 4) rfl rfl) ?_
    rcases e3 : f_m_ahead (Int32.toInt64 x1) 4 h with _ | r2
    · rw [e3] at hf; cases hf
    rw [e3] at hf; dsimp only at hf
    refine r_callv rfl xvX12_ahead xm12_396 (kf_m_ahead (d := d) L0 e3) (LY.lt L0 (by decide)) (LY.k1262 L0) (by decide) rfl rfl (by omega) (by decide) (Nat.le_of_ble_eq_true rfl) ?_
    rintro _ _ ⟨⟨rfl, rfl⟩, L4⟩
    refine XS.go (s_aloadn rfl rfl rfl) ?_
    refine XS.go (s_iconst (v := 1) rfl rfl) ?_
    refine XS.go (s_iconst (v := (-1)) rfl rfl) ?_
    refine XS.go (s_iconst (v := 0) rfl rfl) ?_
    rcases e6 : f_m_thing 1 (-1) 0 r2.2 with _ | r5
    · rw [e6] at hf; cases hf
    rw [e6] at hf; dsimp only at hf
    refine r_callv rfl xvX12_thing xm12_410 (kf_m_thing (d := d) L4 e6) (LY.lt L4 (by decide)) (LY.k1262 L4) (by decide) rfl rfl (by omega) (by decide) (Nat.le_of_ble_eq_true rfl) ?_
    rintro _ _ ⟨⟨rfl, rfl⟩, L7⟩
    cases hf
    exact XR.reti rfl rfl (fun hret => ⟨_, hret, ⟨rfl, rfl⟩, L7⟩)
  · rw [if_neg qc1] at hf
    refine XS.go (s_aloadn rfl rfl rfl) ?_
    refine XS.go (s_aloadn rfl rfl rfl) ?_
    refine XS.go (s_getr rfl xf12_9 (LY.lt L0 (by decide)) (LY.k1262 L0) (by decide) rfl (LY.r1262_1 L0)) ?_
    refine XS.go (s_iloadn rfl rfl rfl) ?_
    by_cases qk8 : 0 ≤ x3 ∧ x3 < nI 4000
    rotate_left
    · rw [if_neg qk8] at hf; cases hf
    rw [if_pos qk8] at hf
    refine XS.go (s_ialde rfl (LY.lt L0 (by decide)) (LY.k1263 L0) (inLit (LY.n1263 L0) qk8.1 qk8.2 (by decide)) rfl) ?_
    refine XS.go (s_i2l rfl) ?_
    refine XS.go (s_iconst (v := 1) rfl rfl) ?_
    rcases e10 : f_m_ahead (Int32.toInt64 (hi h 1263 (Int32.toNatClampNeg x3))) 1 h with _ | r9
    · rw [e10] at hf; cases hf
    rw [e10] at hf; dsimp only at hf
    refine r_callv rfl xvX12_ahead xm12_396 (kf_m_ahead (d := d) L0 e10) (LY.lt L0 (by decide)) (LY.k1262 L0) (by decide) rfl rfl (by omega) (by decide) (Nat.le_of_ble_eq_true rfl) ?_
    rintro _ _ ⟨⟨rfl, rfl⟩, L11⟩
    refine XS.go (s_dec rfl rfl (Nat.le_of_ble_eq_true rfl)) ?_
    refine XS.go (s_goto (tgt := 92) rfl rfl) ?_
    exact XR.forget (L2 := [some (.ref 1262), some (.int x1), none, some (.int (x3 + (-1)))]) ⟨rfl, ⟨rfl, ⟨rfl, trivial⟩⟩⟩ (hK92 x1 (x3 + (-1)) _ L11 hf)
def b_m_text_92 : Nat → Int32 → Int32 → XH → Option (Int32 × XH)
  | 0, _, _, _ => none
  | n + 1, x1, x3, h => s_m_text_92 (b_m_text_92 n) x1 x3 h
theorem kb_m_text_92 {l : Launch} {G : XG} {d : Nat} {n : Nat} {x1 : Int32} {x3 : Int32} {h : XH} {r : Int32 × XH} (L0 : LY h) (hf : b_m_text_92 n x1 x3 h = some r) : XR l G xEX12_text (d + 1) (92, [some (.ref 1262), some (.int x1), none, some (.int x3)], [], h) (fun C => ∃ v, xRet xEX12_text C v ∧ (C.2.2.2 = r.2 ∧ v = some (.int r.1)) ∧ LY r.2) := by
  induction n generalizing x1 x3 h with
  | zero => cases hf
  | succ n ih => exact ks_m_text_92 (fun x1 x3 h L0 hf => ih (h := h) (x1 := x1) (x3 := x3) L0 hf) L0 hf
def b_m_text_69 (h : XH) : Option (Int32 × XH) := (some (0, (hsi h 1262 0 2)))
set_option maxRecDepth 20000 in
theorem kb_m_text_69 {l : Launch} {G : XG} {d : Nat} {h : XH} {r : Int32 × XH} (L0 : LY h) (hf : b_m_text_69 h = some r) : XR l G xEX12_text (d + 1) (69, [some (.ref 1262), none, none, none], [], h) (fun C => ∃ v, xRet xEX12_text C v ∧ (C.2.2.2 = r.2 ∧ v = some (.int r.1)) ∧ LY r.2) := by
  unfold b_m_text_69 at hf
  refine XS.go (s_aloadn rfl rfl rfl) ?_
  refine XS.go (s_iconst (v := 2) rfl rfl) ?_
  refine XS.go (s_puti rfl xf12_175 (LY.lt L0 (by decide)) (LY.k1262 L0) (by decide) rfl (Or.inl rfl)) ?_
  refine XS.go (s_iconst (v := 0) rfl rfl) ?_
  cases hf
  exact XR.reti rfl rfl (fun hret => ⟨_, hret, ⟨rfl, rfl⟩, (by simp only [LY_si, LY_sj]; exact L0)⟩)
def f_m_text (h : XH) : Option (Int32 × XH) := (if (hi h 1262 67) = (-1) then (match f_m_fill (hi h 1262 57) ((hi h 1262 2) + 1) 4 (hsi (hsi h 1262 0 0) 1262 2 0) with | none => none | some r13 => (if (hi r13.2 1262 59) = 300 then (b_m_text_69 r13.2) else (if ((((hi r13.2 1262 57) + r13.1) + (hi h 1262 2)) + 5) ≤ 4000 then (match f_m_aligned 4 r13.2 with | none => none | some r18 => (match f_m_zeros (r13.1 + 1) r18.2 with | none => none | some r21 => (b_m_text_92 100000 (hi h 1262 2) ((hi h 1262 2) - 1) r21.2))) else (b_m_text_69 r13.2)))) else (some (0, (hsi (hsi (hsi h 1262 0 0) 1262 2 0) 1262 0 1))))
set_option maxRecDepth 20000 in
theorem kf_m_text {l : Launch} {G : XG} {d : Nat} {h : XH} {r : Int32 × XH} (L0 : LY h) (hf : f_m_text h = some r) : XC l G xEX12_text (d + 1) [.ref 1262] h (fun v h2 => (h2 = r.2 ∧ v = some (.int r.1)) ∧ LY r.2) := by
  refine XC.virt xvX12_text (Nat.le_of_ble_eq_true rfl) ?_
  unfold f_m_text at hf
  refine XS.go (s_aloadn rfl rfl rfl) ?_
  refine XS.go (s_iconst (v := 0) rfl rfl) ?_
  refine XS.go (s_puti rfl xf12_175 (LY.lt L0 (by decide)) (LY.k1262 L0) (by decide) rfl (Or.inl rfl)) ?_
  refine XS.go (s_aloadn rfl rfl rfl) ?_
  refine XS.go (s_getie rfl xf12_178 (LY.lt (by simp only [LY_si, LY_sj]; exact L0) (by decide)) (LY.k1262 (by simp only [LY_si, LY_sj]; exact L0)) (by decide) rfl (hi_hsi_nk (by decide))) ?_
  refine XS.go (s_istoren rfl rfl (Nat.le_of_ble_eq_true rfl)) ?_
  refine XS.go (s_aloadn rfl rfl rfl) ?_
  refine XS.go (s_iconst (v := 0) rfl rfl) ?_
  refine XS.go (s_puti rfl xf12_178 (LY.lt (by simp only [LY_si, LY_sj]; exact L0) (by decide)) (LY.k1262 (by simp only [LY_si, LY_sj]; exact L0)) (by decide) rfl (Or.inl rfl)) ?_
  refine XS.go (s_aloadn rfl rfl rfl) ?_
  refine XS.go (s_getie rfl xf12_140 (LY.lt (by simp only [LY_si, LY_sj]; exact L0) (by decide)) (LY.k1262 (by simp only [LY_si, LY_sj]; exact L0)) (by decide) rfl ((hi_hsi_nk (by decide)).trans (hi_hsi_nk (by decide)))) ?_
  refine XS.go (s_iconst (v := (-1)) rfl rfl) ?_
  refine r_icmp_eq (tgt := 30) rfl rfl (fun qc12 => ?_) (fun qc12 => ?_)
  · rw [if_pos qc12] at hf
    refine XS.go (s_aloadn rfl rfl rfl) ?_
    refine XS.go (s_aloadn rfl rfl rfl) ?_
    refine XS.go (s_getie rfl xf12_382 (LY.lt (by simp only [LY_si, LY_sj]; exact L0) (by decide)) (LY.k1262 (by simp only [LY_si, LY_sj]; exact L0)) (by decide) rfl ((hi_hsi_nk (by decide)).trans (hi_hsi_nk (by decide)))) ?_
    refine XS.go (s_iloadn rfl rfl rfl) ?_
    refine XS.go (s_iconst (v := 1) rfl rfl) ?_
    refine XS.go (s_iadd rfl) ?_
    refine XS.go (s_iconst (v := 4) rfl rfl) ?_
    rcases e14 : f_m_fill (hi h 1262 57) ((hi h 1262 2) + 1) 4 (hsi (hsi h 1262 0 0) 1262 2 0) with _ | r13
    · rw [e14] at hf; cases hf
    rw [e14] at hf; dsimp only at hf
    refine r_callv rfl xvX12_fill xm12_400 (kf_m_fill (d := d) (by simp only [LY_si, LY_sj]; exact L0) e14) (LY.lt (by simp only [LY_si, LY_sj]; exact L0) (by decide)) (LY.k1262 (by simp only [LY_si, LY_sj]; exact L0)) (by decide) rfl rfl (by omega) (by decide) (Nat.le_of_ble_eq_true rfl) ?_
    rintro _ _ ⟨⟨rfl, rfl⟩, L15⟩
    refine XS.go (s_istoren rfl rfl (Nat.le_of_ble_eq_true rfl)) ?_
    refine XS.go (s_aloadn rfl rfl rfl) ?_
    refine XS.go (s_getie rfl xf12_388 (LY.lt L15 (by decide)) (LY.k1262 L15) (by decide) rfl rfl) ?_
    refine XS.go (s_sipush (v := 300) rfl rfl) ?_
    refine r_icmp_eq (tgt := 69) rfl rfl (fun qc16 => ?_) (fun qc16 => ?_)
    · rw [if_pos qc16] at hf
      exact XR.forget (L2 := [some (.ref 1262), none, none, none]) ⟨rfl, trivial⟩ (kb_m_text_69 L15 hf)
    · rw [if_neg qc16] at hf
      refine XS.go (s_aloadn rfl rfl rfl) ?_
      refine XS.go (s_getie rfl xf12_382 (LY.lt L15 (by decide)) (LY.k1262 L15) (by decide) rfl rfl) ?_
      refine XS.go (s_iloadn rfl rfl rfl) ?_
      refine XS.go (s_iadd rfl) ?_
      refine XS.go (s_iloadn rfl rfl rfl) ?_
      refine XS.go (s_iadd rfl) ?_
      refine XS.go (s_iconst (v := 5) rfl rfl) ?_
      refine XS.go (s_iadd rfl) ?_
      refine XS.go (s_sipush (v := 4000) rfl rfl) ?_
      refine r_icmp_le (tgt := 76) rfl rfl (fun qc17 => ?_) (fun qc17 => ?_)
      · rw [if_pos qc17] at hf
        refine XS.go (s_aloadn rfl rfl rfl) ?_
        refine XS.go (s_iconst (v := 4) rfl rfl) ?_
        rcases e19 : f_m_aligned 4 r13.2 with _ | r18
        · rw [e19] at hf; cases hf
        rw [e19] at hf; dsimp only at hf
        refine r_callv rfl xvX12_aligned xm12_404 (kf_m_aligned (d := d) L15 e19) (LY.lt L15 (by decide)) (LY.k1262 L15) (by decide) rfl rfl (by omega) (by decide) (Nat.le_of_ble_eq_true rfl) ?_
        rintro _ _ ⟨⟨rfl, rfl⟩, L20⟩
        refine XS.go (s_aloadn rfl rfl rfl) ?_
        refine XS.go (s_iloadn rfl rfl rfl) ?_
        refine XS.go (s_iconst (v := 1) rfl rfl) ?_
        refine XS.go (s_iadd rfl) ?_
        rcases e22 : f_m_zeros (r13.1 + 1) r18.2 with _ | r21
        · rw [e22] at hf; cases hf
        rw [e22] at hf; dsimp only at hf
        refine r_callv rfl xvX12_zeros xm12_407 (kf_m_zeros (d := d) L20 e22) (LY.lt L20 (by decide)) (LY.k1262 L20) (by decide) rfl rfl (by omega) (by decide) (Nat.le_of_ble_eq_true rfl) ?_
        rintro _ _ ⟨⟨rfl, rfl⟩, L23⟩
        refine XS.go (s_iloadn rfl rfl rfl) ?_
        refine XS.go (s_iconst (v := 1) rfl rfl) ?_
        refine XS.go (s_isub rfl) ?_
        refine XS.go (s_istoren rfl rfl (Nat.le_of_ble_eq_true rfl)) ?_
        exact XR.forget (L2 := [some (.ref 1262), some (.int (hi h 1262 2)), none, some (.int ((hi h 1262 2) - 1))]) ⟨rfl, ⟨rfl, ⟨rfl, trivial⟩⟩⟩ (kb_m_text_92 L23 hf)
      · rw [if_neg qc17] at hf
        exact XR.forget (L2 := [some (.ref 1262), none, none, none]) ⟨rfl, trivial⟩ (kb_m_text_69 L15 hf)
  · rw [if_neg qc12] at hf
    refine XS.go (s_aloadn rfl rfl rfl) ?_
    refine XS.go (s_iconst (v := 1) rfl rfl) ?_
    refine XS.go (s_puti rfl xf12_175 (LY.lt (by simp only [LY_si, LY_sj]; exact L0) (by decide)) (LY.k1262 (by simp only [LY_si, LY_sj]; exact L0)) (by decide) rfl (Or.inl rfl)) ?_
    refine XS.go (s_iconst (v := 0) rfl rfl) ?_
    cases hf
    exact XR.reti rfl rfl (fun hret => ⟨_, hret, ⟨rfl, rfl⟩, (by simp only [LY_si, LY_sj]; exact L0)⟩)
def f_m_isThing (a0 : Int64) (a1 : Int32) (a2 : Int32) (a3 : Int32) (h : XH) : Option (Int32 × XH) := (if (lg_cmp a0 0) < 0 then (some (0, h)) else (if (lg_cmp a0 (Int32.toInt64 (hi h 1262 59))) < 0 then (if 0 ≤ (Int64.toInt32 a0) ∧ (Int64.toInt32 a0) < nI 300 then (if ¬ (hi h 1300 (Int32.toNatClampNeg (Int64.toInt32 a0))) = a1 then (some (0, h)) else (if ¬ (hi h 1301 (Int32.toNatClampNeg (Int64.toInt32 a0))) = a2 then (some (0, h)) else (if ¬ (hi h 1302 (Int32.toNatClampNeg (Int64.toInt32 a0))) = a3 then (some (0, h)) else (some (1, h))))) else none) else (some (0, h))))
set_option maxRecDepth 20000 in
theorem kf_m_isThing {l : Launch} {G : XG} {d : Nat} {a0 : Int64} {a1 : Int32} {a2 : Int32} {a3 : Int32} {h : XH} {r : Int32 × XH} (L0 : LY h) (hf : f_m_isThing a0 a1 a2 a3 h = some r) : XC l G xEX12_isThing d [.ref 1262, .long a0, .int a1, .int a2, .int a3] h (fun v h2 => (h2 = r.2 ∧ v = some (.int r.1)) ∧ LY r.2) := by
  refine XC.virt xvX12_isThing (Nat.le_of_ble_eq_true rfl) ?_
  unfold f_m_isThing at hf
  refine XS.go (s_lloadn rfl rfl rfl) ?_
  refine XS.go (s_lconst (v := 0) rfl rfl) ?_
  refine XS.go (s_lcmp rfl) ?_
  refine r_if_lt (tgt := 16) rfl rfl (fun qc1 => ?_) (fun qc1 => ?_)
  · rw [if_pos qc1] at hf
    refine XS.go (s_iconst (v := 0) rfl rfl) ?_
    cases hf
    exact XR.retz rfl rfl (by decide) (fun hret => ⟨_, hret, ⟨rfl, rfl⟩, L0⟩)
  · rw [if_neg qc1] at hf
    refine XS.go (s_lloadn rfl rfl rfl) ?_
    refine XS.go (s_aloadn rfl rfl rfl) ?_
    refine XS.go (s_getie rfl xf12_388 (LY.lt L0 (by decide)) (LY.k1262 L0) (by decide) rfl rfl) ?_
    refine XS.go (s_i2l rfl) ?_
    refine XS.go (s_lcmp rfl) ?_
    refine r_if_lt (tgt := 18) rfl rfl (fun qc2 => ?_) (fun qc2 => ?_)
    · rw [if_pos qc2] at hf
      refine XS.go (s_lloadn rfl rfl rfl) ?_
      refine XS.go (s_l2i rfl) ?_
      refine XS.go (s_istore rfl (Nat.le_of_ble_eq_true rfl)) ?_
      refine XS.go (s_aloadn rfl rfl rfl) ?_
      refine XS.go (s_getr rfl xf12_122 (LY.lt L0 (by decide)) (LY.k1262 L0) (by decide) rfl (LY.r1262_60 L0)) ?_
      refine XS.go (s_iload rfl rfl) ?_
      by_cases qk3 : 0 ≤ (Int64.toInt32 a0) ∧ (Int64.toInt32 a0) < nI 300
      rotate_left
      · rw [if_neg qk3] at hf; cases hf
      rw [if_pos qk3] at hf
      refine XS.go (s_ialde rfl (LY.lt L0 (by decide)) (LY.k1300 L0) (inLit (LY.n1300 L0) qk3.1 qk3.2 (by decide)) rfl) ?_
      refine XS.go (s_iloadn rfl rfl rfl) ?_
      refine r_icmp_ne (tgt := 61) rfl rfl (fun qc4 => ?_) (fun qc4 => ?_)
      · rw [if_pos qc4] at hf
        refine XS.go (s_iconst (v := 0) rfl rfl) ?_
        cases hf
        exact XR.retz rfl rfl (by decide) (fun hret => ⟨_, hret, ⟨rfl, rfl⟩, L0⟩)
      · rw [if_neg qc4] at hf
        refine XS.go (s_aloadn rfl rfl rfl) ?_
        refine XS.go (s_getr rfl xf12_125 (LY.lt L0 (by decide)) (LY.k1262 L0) (by decide) rfl (LY.r1262_61 L0)) ?_
        refine XS.go (s_iload rfl rfl) ?_
        refine XS.go (s_ialde rfl (LY.lt L0 (by decide)) (LY.k1301 L0) (inLit (LY.n1301 L0) qk3.1 qk3.2 (by decide)) rfl) ?_
        refine XS.go (s_iload rfl rfl) ?_
        refine r_icmp_ne (tgt := 61) rfl rfl (fun qc5 => ?_) (fun qc5 => ?_)
        · rw [if_pos qc5] at hf
          refine XS.go (s_iconst (v := 0) rfl rfl) ?_
          cases hf
          exact XR.retz rfl rfl (by decide) (fun hret => ⟨_, hret, ⟨rfl, rfl⟩, L0⟩)
        · rw [if_neg qc5] at hf
          refine XS.go (s_aloadn rfl rfl rfl) ?_
          refine XS.go (s_getr rfl xf12_128 (LY.lt L0 (by decide)) (LY.k1262 L0) (by decide) rfl (LY.r1262_62 L0)) ?_
          refine XS.go (s_iload rfl rfl) ?_
          refine XS.go (s_ialde rfl (LY.lt L0 (by decide)) (LY.k1302 L0) (inLit (LY.n1302 L0) qk3.1 qk3.2 (by decide)) rfl) ?_
          refine XS.go (s_iload rfl rfl) ?_
          refine r_icmp_ne (tgt := 61) rfl rfl (fun qc6 => ?_) (fun qc6 => ?_)
          · rw [if_pos qc6] at hf
            refine XS.go (s_iconst (v := 0) rfl rfl) ?_
            cases hf
            exact XR.retz rfl rfl (by decide) (fun hret => ⟨_, hret, ⟨rfl, rfl⟩, L0⟩)
          · rw [if_neg qc6] at hf
            refine XS.go (s_iconst (v := 1) rfl rfl) ?_
            refine XS.go (s_goto (tgt := 62) rfl rfl) ?_
            cases hf
            exact XR.retz rfl rfl (by decide) (fun hret => ⟨_, hret, ⟨rfl, rfl⟩, L0⟩)
    · rw [if_neg qc2] at hf
      refine XS.go (s_iconst (v := 0) rfl rfl) ?_
      cases hf
      exact XR.retz rfl rfl (by decide) (fun hret => ⟨_, hret, ⟨rfl, rfl⟩, L0⟩)
def s_m_areOfStruct_2 (K2 : Int32 → Int32 → Int32 → XH → Option (Int32 × XH)) (x1 : Int32) (x2 : Int32) (x3 : Int32) (h : XH) : Option (Int32 × XH) := (if 0 ≤ x1 ∧ x1 < nI 12 then (if (hi h 1280 (Int32.toNatClampNeg x1)) ≤ x3 then (some (1, h)) else (if 0 ≤ ((128 * x1) + x3) ∧ ((128 * x1) + x3) < nI 1536 then (if 0 ≤ (x2 + x3) ∧ (x2 + x3) < nI 600 then (match f_m_isValue (hi h 1281 (Int32.toNatClampNeg ((128 * x1) + x3))) (hj h 1298 (Int32.toNatClampNeg (x2 + x3))) h with | none => none | some r5 => (if ¬ r5.1 = 0 then (K2 x1 x2 (x3 + 1) r5.2) else (some (0, r5.2)))) else none) else none)) else none)
set_option maxRecDepth 20000 in
theorem ks_m_areOfStruct_2 {l : Launch} {G : XG} {d : Nat} {K2 : Int32 → Int32 → Int32 → XH → Option (Int32 × XH)} {x1 : Int32} {x2 : Int32} {x3 : Int32} {h : XH} {r : Int32 × XH} (hK2 : ∀ (x1 : Int32) (x2 : Int32) (x3 : Int32) (h : XH), LY h → K2 x1 x2 x3 h = some r → XR l G xEX12_areOfStruct (d + 2) (2, [some (.ref 1262), some (.int x1), some (.int x2), some (.int x3)], [], h) (fun C => ∃ v, xRet xEX12_areOfStruct C v ∧ (C.2.2.2 = r.2 ∧ v = some (.int r.1)) ∧ LY r.2)) (L0 : LY h) (hf : s_m_areOfStruct_2 K2 x1 x2 x3 h = some r) : XR l G xEX12_areOfStruct (d + 2) (2, [some (.ref 1262), some (.int x1), some (.int x2), some (.int x3)], [], h) (fun C => ∃ v, xRet xEX12_areOfStruct C v ∧ (C.2.2.2 = r.2 ∧ v = some (.int r.1)) ∧ LY r.2) := by
  unfold s_m_areOfStruct_2 at hf
  refine XS.go (s_iloadn rfl rfl rfl) ?_
  refine XS.go (s_aloadn rfl rfl rfl) ?_
  refine XS.go (s_getr rfl xf12_61 (LY.lt L0 (by decide)) (LY.k1262 L0) (by decide) rfl (LY.r1262_28 L0)) ?_
  refine XS.go (s_iloadn rfl rfl rfl) ?_
  by_cases qk1 : 0 ≤ x1 ∧ x1 < nI 12
  rotate_left
  · rw [if_neg qk1] at hf; cases hf
  rw [if_pos qk1] at hf
  refine XS.go (s_ialde rfl (LY.lt L0 (by decide)) (LY.k1280 L0) (inLit (LY.n1280 L0) qk1.1 qk1.2 (by decide)) rfl) ?_
  refine r_icmp_ge (tgt := 46) rfl rfl (fun qc2 => ?_) (fun qc2 => ?_)
  · rw [if_pos qc2] at hf
    refine XS.go (s_iconst (v := 1) rfl rfl) ?_
    cases hf
    exact XR.retz rfl rfl (by decide) (fun hret => ⟨_, hret, ⟨rfl, rfl⟩, L0⟩)
  · rw [if_neg qc2] at hf
    refine XS.go (s_aloadn rfl rfl rfl) ?_
    refine XS.go (s_getr rfl xf12_64 (LY.lt L0 (by decide)) (LY.k1262 L0) (by decide) rfl (LY.r1262_29 L0)) ?_
    refine XS.go (s_sipush (v := 128) rfl rfl) ?_
    refine XS.go (s_iloadn rfl rfl rfl) ?_
    refine XS.go (s_imul rfl) ?_
    refine XS.go (s_iloadn rfl rfl rfl) ?_
    refine XS.go (s_iadd rfl) ?_
    by_cases qk3 : 0 ≤ ((128 * x1) + x3) ∧ ((128 * x1) + x3) < nI 1536
    rotate_left
    · rw [if_neg qk3] at hf; cases hf
    rw [if_pos qk3] at hf
    refine XS.go (s_ialde rfl (LY.lt L0 (by decide)) (LY.k1281 L0) (inLit (LY.n1281 L0) qk3.1 qk3.2 (by decide)) rfl) ?_
    refine XS.go (s_aloadn rfl rfl rfl) ?_
    refine XS.go (s_getr rfl xf12_116 (LY.lt L0 (by decide)) (LY.k1262 L0) (by decide) rfl (LY.r1262_54 L0)) ?_
    refine XS.go (s_iloadn rfl rfl rfl) ?_
    refine XS.go (s_iloadn rfl rfl rfl) ?_
    refine XS.go (s_iadd rfl) ?_
    by_cases qk4 : 0 ≤ (x2 + x3) ∧ (x2 + x3) < nI 600
    rotate_left
    · rw [if_neg qk4] at hf; cases hf
    rw [if_pos qk4] at hf
    refine XS.go (s_lalde rfl (LY.lt L0 (by decide)) (LY.k1298 L0) (inLit (LY.n1298 L0) qk4.1 qk4.2 (by decide)) rfl) ?_
    rcases e6 : f_m_isValue (hi h 1281 (Int32.toNatClampNeg ((128 * x1) + x3))) (hj h 1298 (Int32.toNatClampNeg (x2 + x3))) h with _ | r5
    · rw [e6] at hf; cases hf
    rw [e6] at hf; dsimp only at hf
    refine r_calls rfl xsX12_isValue xm12_334 (kf_m_isValue (d := d) L0 e6) rfl rfl (by omega) (by decide) (Nat.le_of_ble_eq_true rfl) ?_
    rintro _ _ ⟨⟨rfl, rfl⟩, L7⟩
    refine r_if_ne (tgt := 40) rfl rfl (fun qc8 => ?_) (fun qc8 => ?_)
    · rw [if_pos qc8] at hf
      refine XS.go (s_inc rfl rfl (Nat.le_of_ble_eq_true rfl)) ?_
      refine XS.go (s_goto (tgt := 2) rfl rfl) ?_
      exact XR.forget (L2 := [some (.ref 1262), some (.int x1), some (.int x2), some (.int (x3 + 1))]) ⟨rfl, ⟨rfl, ⟨rfl, ⟨rfl, trivial⟩⟩⟩⟩ (hK2 x1 x2 (x3 + 1) _ L7 hf)
    · rw [if_neg qc8] at hf
      refine XS.go (s_iconst (v := 0) rfl rfl) ?_
      cases hf
      exact XR.retz rfl rfl (by decide) (fun hret => ⟨_, hret, ⟨rfl, rfl⟩, L7⟩)
def b_m_areOfStruct_2 : Nat → Int32 → Int32 → Int32 → XH → Option (Int32 × XH)
  | 0, _, _, _, _ => none
  | n + 1, x1, x2, x3, h => s_m_areOfStruct_2 (b_m_areOfStruct_2 n) x1 x2 x3 h
theorem kb_m_areOfStruct_2 {l : Launch} {G : XG} {d : Nat} {n : Nat} {x1 : Int32} {x2 : Int32} {x3 : Int32} {h : XH} {r : Int32 × XH} (L0 : LY h) (hf : b_m_areOfStruct_2 n x1 x2 x3 h = some r) : XR l G xEX12_areOfStruct (d + 2) (2, [some (.ref 1262), some (.int x1), some (.int x2), some (.int x3)], [], h) (fun C => ∃ v, xRet xEX12_areOfStruct C v ∧ (C.2.2.2 = r.2 ∧ v = some (.int r.1)) ∧ LY r.2) := by
  induction n generalizing x1 x2 x3 h with
  | zero => cases hf
  | succ n ih => exact ks_m_areOfStruct_2 (fun x1 x2 x3 h L0 hf => ih (h := h) (x1 := x1) (x2 := x2) (x3 := x3) L0 hf) L0 hf
def f_m_areOfStruct (a0 : Int32) (a1 : Int32) (h : XH) : Option (Int32 × XH) := (b_m_areOfStruct_2 100000 a0 a1 0 h)
set_option maxRecDepth 20000 in
theorem kf_m_areOfStruct {l : Launch} {G : XG} {d : Nat} {a0 : Int32} {a1 : Int32} {h : XH} {r : Int32 × XH} (L0 : LY h) (hf : f_m_areOfStruct a0 a1 h = some r) : XC l G xEX12_areOfStruct (d + 2) [.ref 1262, .int a0, .int a1] h (fun v h2 => (h2 = r.2 ∧ v = some (.int r.1)) ∧ LY r.2) := by
  refine XC.virt xvX12_areOfStruct (Nat.le_of_ble_eq_true rfl) ?_
  unfold f_m_areOfStruct at hf
  refine XS.go (s_iconst (v := 0) rfl rfl) ?_
  refine XS.go (s_istoren rfl rfl (Nat.le_of_ble_eq_true rfl)) ?_
  exact XR.forget (L2 := [some (.ref 1262), some (.int a0), some (.int a1), some (.int 0)]) ⟨rfl, ⟨rfl, ⟨rfl, ⟨rfl, trivial⟩⟩⟩⟩ (kb_m_areOfStruct_2 L0 hf)
def s_m_putStruct_17 (K17 : Int32 → Int32 → Int32 → Int32 → XH → Option (Unit × XH)) (x1 : Int32) (x2 : Int32) (x3 : Int32) (x4 : Int32) (h : XH) : Option (Unit × XH) := (if x4 < 0 then (match f_m_zeros x3 h with | none => none | some r2 => (some ((), r2.2))) else (if 0 ≤ ((128 * x1) + x4) ∧ ((128 * x1) + x4) < nI 1536 then (match f_m_bytesOf (hi h 1281 (Int32.toNatClampNeg ((128 * x1) + x4))) h with | none => none | some r6 => (match f_m_zeros ((x3 - (hi h 1282 (Int32.toNatClampNeg ((128 * x1) + x4)))) - r6.1) r6.2 with | none => none | some r9 => (if 0 ≤ (x2 + x4) ∧ (x2 + x4) < nI 600 then (match f_m_bytesOf (hi h 1281 (Int32.toNatClampNeg ((128 * x1) + x4))) r9.2 with | none => none | some r13 => (match f_m_ahead (hj r9.2 1298 (Int32.toNatClampNeg (x2 + x4))) r13.1 r13.2 with | none => none | some r16 => (K17 x1 x2 (hi h 1282 (Int32.toNatClampNeg ((128 * x1) + x4))) (x4 + (-1)) r16.2))) else none))) else none))
set_option maxRecDepth 20000 in
theorem ks_m_putStruct_17 {l : Launch} {G : XG} {d : Nat} {K17 : Int32 → Int32 → Int32 → Int32 → XH → Option (Unit × XH)} {x1 : Int32} {x2 : Int32} {x3 : Int32} {x4 : Int32} {h : XH} {r : Unit × XH} (hK17 : ∀ (x1 : Int32) (x2 : Int32) (x3 : Int32) (x4 : Int32) (h : XH), LY h → K17 x1 x2 x3 x4 h = some r → XR l G xEX12_putStruct (d + 1) (17, [some (.ref 1262), some (.int x1), some (.int x2), some (.int x3), some (.int x4), none, none], [], h) (fun C => ∃ v, xRet xEX12_putStruct C v ∧ (C.2.2.2 = r.2 ∧ v = none) ∧ LY r.2)) (L0 : LY h) (hf : s_m_putStruct_17 K17 x1 x2 x3 x4 h = some r) : XR l G xEX12_putStruct (d + 1) (17, [some (.ref 1262), some (.int x1), some (.int x2), some (.int x3), some (.int x4), none, none], [], h) (fun C => ∃ v, xRet xEX12_putStruct C v ∧ (C.2.2.2 = r.2 ∧ v = none) ∧ LY r.2) := by
  unfold s_m_putStruct_17 at hf
  refine XS.go (s_iload rfl rfl) ?_
  refine r_if_lt (tgt := 93) rfl rfl (fun qc1 => ?_) (fun qc1 => ?_)
  · rw [if_pos qc1] at hf
    refine XS.go (s_aloadn rfl rfl rfl) ?_
    refine XS.go (s_iloadn rfl rfl rfl) ?_
    rcases e3 : f_m_zeros x3 h with _ | r2
    · rw [e3] at hf; cases hf
    rw [e3] at hf; dsimp only at hf
    refine r_callv rfl xvX12_zeros xm12_407 (kf_m_zeros (d := d) L0 e3) (LY.lt L0 (by decide)) (LY.k1262 L0) (by decide) rfl rfl (by omega) (by decide) (Nat.le_of_ble_eq_true rfl) ?_
    rintro _ _ ⟨⟨rfl, rfl⟩, L4⟩
    cases hf
    exact XR.retv rfl rfl (fun hret => ⟨_, hret, ⟨rfl, rfl⟩, L4⟩)
  · rw [if_neg qc1] at hf
    refine XS.go (s_aloadn rfl rfl rfl) ?_
    refine XS.go (s_getr rfl xf12_64 (LY.lt L0 (by decide)) (LY.k1262 L0) (by decide) rfl (LY.r1262_29 L0)) ?_
    refine XS.go (s_sipush (v := 128) rfl rfl) ?_
    refine XS.go (s_iloadn rfl rfl rfl) ?_
    refine XS.go (s_imul rfl) ?_
    refine XS.go (s_iload rfl rfl) ?_
    refine XS.go (s_iadd rfl) ?_
    by_cases qk5 : 0 ≤ ((128 * x1) + x4) ∧ ((128 * x1) + x4) < nI 1536
    rotate_left
    · rw [if_neg qk5] at hf; cases hf
    rw [if_pos qk5] at hf
    refine XS.go (s_ialde rfl (LY.lt L0 (by decide)) (LY.k1281 L0) (inLit (LY.n1281 L0) qk5.1 qk5.2 (by decide)) rfl) ?_
    refine XS.go (s_istore rfl (Nat.le_of_ble_eq_true rfl)) ?_
    refine XS.go (s_aloadn rfl rfl rfl) ?_
    refine XS.go (s_getr rfl xf12_67 (LY.lt L0 (by decide)) (LY.k1262 L0) (by decide) rfl (LY.r1262_30 L0)) ?_
    refine XS.go (s_sipush (v := 128) rfl rfl) ?_
    refine XS.go (s_iloadn rfl rfl rfl) ?_
    refine XS.go (s_imul rfl) ?_
    refine XS.go (s_iload rfl rfl) ?_
    refine XS.go (s_iadd rfl) ?_
    refine XS.go (s_ialde rfl (LY.lt L0 (by decide)) (LY.k1282 L0) (inLit (LY.n1282 L0) qk5.1 qk5.2 (by decide)) rfl) ?_
    refine XS.go (s_istore rfl (Nat.le_of_ble_eq_true rfl)) ?_
    refine XS.go (s_aloadn rfl rfl rfl) ?_
    refine XS.go (s_iloadn rfl rfl rfl) ?_
    refine XS.go (s_iload rfl rfl) ?_
    refine XS.go (s_isub rfl) ?_
    refine XS.go (s_iload rfl rfl) ?_
    rcases e7 : f_m_bytesOf (hi h 1281 (Int32.toNatClampNeg ((128 * x1) + x4))) h with _ | r6
    · rw [e7] at hf; cases hf
    rw [e7] at hf; dsimp only at hf
    refine r_calls rfl xsX12_bytesOf xm12_315 (kf_m_bytesOf (d := d) L0 e7) rfl rfl (by omega) (by decide) (Nat.le_of_ble_eq_true rfl) ?_
    rintro _ _ ⟨⟨rfl, rfl⟩, L8⟩
    refine XS.go (s_isub rfl) ?_
    rcases e10 : f_m_zeros ((x3 - (hi h 1282 (Int32.toNatClampNeg ((128 * x1) + x4)))) - r6.1) r6.2 with _ | r9
    · rw [e10] at hf; cases hf
    rw [e10] at hf; dsimp only at hf
    refine r_callv rfl xvX12_zeros xm12_407 (kf_m_zeros (d := d) L8 e10) (LY.lt L8 (by decide)) (LY.k1262 L8) (by decide) rfl rfl (by omega) (by decide) (Nat.le_of_ble_eq_true rfl) ?_
    rintro _ _ ⟨⟨rfl, rfl⟩, L11⟩
    refine XS.go (s_aloadn rfl rfl rfl) ?_
    refine XS.go (s_aloadn rfl rfl rfl) ?_
    refine XS.go (s_getr rfl xf12_116 (LY.lt L11 (by decide)) (LY.k1262 L11) (by decide) rfl (LY.r1262_54 L11)) ?_
    refine XS.go (s_iloadn rfl rfl rfl) ?_
    refine XS.go (s_iload rfl rfl) ?_
    refine XS.go (s_iadd rfl) ?_
    by_cases qk12 : 0 ≤ (x2 + x4) ∧ (x2 + x4) < nI 600
    rotate_left
    · rw [if_neg qk12] at hf; cases hf
    rw [if_pos qk12] at hf
    refine XS.go (s_lalde rfl (LY.lt L11 (by decide)) (LY.k1298 L11) (inLit (LY.n1298 L11) qk12.1 qk12.2 (by decide)) rfl) ?_
    refine XS.go (s_iload rfl rfl) ?_
    rcases e14 : f_m_bytesOf (hi h 1281 (Int32.toNatClampNeg ((128 * x1) + x4))) r9.2 with _ | r13
    · rw [e14] at hf; cases hf
    rw [e14] at hf; dsimp only at hf
    refine r_calls rfl xsX12_bytesOf xm12_315 (kf_m_bytesOf (d := d) L11 e14) rfl rfl (by omega) (by decide) (Nat.le_of_ble_eq_true rfl) ?_
    rintro _ _ ⟨⟨rfl, rfl⟩, L15⟩
    rcases e17 : f_m_ahead (hj r9.2 1298 (Int32.toNatClampNeg (x2 + x4))) r13.1 r13.2 with _ | r16
    · rw [e17] at hf; cases hf
    rw [e17] at hf; dsimp only at hf
    refine r_callv rfl xvX12_ahead xm12_396 (kf_m_ahead (d := d) L15 e17) (LY.lt L15 (by decide)) (LY.k1262 L15) (by decide) rfl rfl (by omega) (by decide) (Nat.le_of_ble_eq_true rfl) ?_
    rintro _ _ ⟨⟨rfl, rfl⟩, L18⟩
    refine XS.go (s_iload rfl rfl) ?_
    refine XS.go (s_istoren rfl rfl (Nat.le_of_ble_eq_true rfl)) ?_
    refine XS.go (s_dec rfl rfl (Nat.le_of_ble_eq_true rfl)) ?_
    refine XS.go (s_goto (tgt := 17) rfl rfl) ?_
    exact XR.forget (L2 := [some (.ref 1262), some (.int x1), some (.int x2), some (.int (hi h 1282 (Int32.toNatClampNeg ((128 * x1) + x4)))), some (.int (x4 + (-1))), none, none]) ⟨rfl, ⟨rfl, ⟨rfl, ⟨rfl, ⟨rfl, trivial⟩⟩⟩⟩⟩ (hK17 x1 x2 (hi h 1282 (Int32.toNatClampNeg ((128 * x1) + x4))) (x4 + (-1)) _ L18 hf)
def b_m_putStruct_17 : Nat → Int32 → Int32 → Int32 → Int32 → XH → Option (Unit × XH)
  | 0, _, _, _, _, _ => none
  | n + 1, x1, x2, x3, x4, h => s_m_putStruct_17 (b_m_putStruct_17 n) x1 x2 x3 x4 h
theorem kb_m_putStruct_17 {l : Launch} {G : XG} {d : Nat} {n : Nat} {x1 : Int32} {x2 : Int32} {x3 : Int32} {x4 : Int32} {h : XH} {r : Unit × XH} (L0 : LY h) (hf : b_m_putStruct_17 n x1 x2 x3 x4 h = some r) : XR l G xEX12_putStruct (d + 1) (17, [some (.ref 1262), some (.int x1), some (.int x2), some (.int x3), some (.int x4), none, none], [], h) (fun C => ∃ v, xRet xEX12_putStruct C v ∧ (C.2.2.2 = r.2 ∧ v = none) ∧ LY r.2) := by
  induction n generalizing x1 x2 x3 x4 h with
  | zero => cases hf
  | succ n ih => exact ks_m_putStruct_17 (fun x1 x2 x3 x4 h L0 hf => ih (h := h) (x1 := x1) (x2 := x2) (x3 := x3) (x4 := x4) L0 hf) L0 hf
def f_m_putStruct (a0 : Int32) (a1 : Int32) (h : XH) : Option (Unit × XH) := (if 0 ≤ a0 ∧ a0 < nI 12 then (b_m_putStruct_17 100000 a0 a1 (hi h 1274 (Int32.toNatClampNeg a0)) ((hi h 1280 (Int32.toNatClampNeg a0)) - 1) h) else none)
set_option maxRecDepth 20000 in
theorem kf_m_putStruct {l : Launch} {G : XG} {d : Nat} {a0 : Int32} {a1 : Int32} {h : XH} {r : Unit × XH} (L0 : LY h) (hf : f_m_putStruct a0 a1 h = some r) : XC l G xEX12_putStruct (d + 1) [.ref 1262, .int a0, .int a1] h (fun v h2 => (h2 = r.2 ∧ v = none) ∧ LY r.2) := by
  refine XC.virt xvX12_putStruct (Nat.le_of_ble_eq_true rfl) ?_
  unfold f_m_putStruct at hf
  refine XS.go (s_aloadn rfl rfl rfl) ?_
  refine XS.go (s_getr rfl xf12_43 (LY.lt L0 (by decide)) (LY.k1262 L0) (by decide) rfl (LY.r1262_22 L0)) ?_
  refine XS.go (s_iloadn rfl rfl rfl) ?_
  by_cases qk19 : 0 ≤ a0 ∧ a0 < nI 12
  rotate_left
  · rw [if_neg qk19] at hf; cases hf
  rw [if_pos qk19] at hf
  refine XS.go (s_ialde rfl (LY.lt L0 (by decide)) (LY.k1274 L0) (inLit (LY.n1274 L0) qk19.1 qk19.2 (by decide)) rfl) ?_
  refine XS.go (s_istoren rfl rfl (Nat.le_of_ble_eq_true rfl)) ?_
  refine XS.go (s_aloadn rfl rfl rfl) ?_
  refine XS.go (s_getr rfl xf12_61 (LY.lt L0 (by decide)) (LY.k1262 L0) (by decide) rfl (LY.r1262_28 L0)) ?_
  refine XS.go (s_iloadn rfl rfl rfl) ?_
  refine XS.go (s_ialde rfl (LY.lt L0 (by decide)) (LY.k1280 L0) (inLit (LY.n1280 L0) qk19.1 qk19.2 (by decide)) rfl) ?_
  refine XS.go (s_iconst (v := 1) rfl rfl) ?_
  refine XS.go (s_isub rfl) ?_
  refine XS.go (s_istore rfl (Nat.le_of_ble_eq_true rfl)) ?_
  exact XR.forget (L2 := [some (.ref 1262), some (.int a0), some (.int a1), some (.int (hi h 1274 (Int32.toNatClampNeg a0))), some (.int ((hi h 1280 (Int32.toNatClampNeg a0)) - 1)), none, none]) ⟨rfl, ⟨rfl, ⟨rfl, ⟨rfl, ⟨rfl, trivial⟩⟩⟩⟩⟩ (kb_m_putStruct_17 L0 hf)
