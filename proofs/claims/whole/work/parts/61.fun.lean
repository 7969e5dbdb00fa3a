/-! Methods as functions of the heap -/
def f_m_up (h : XH) : Option (Int32 × XH) := (if (hi h 1262 81) = 0 then (some ((-1), (hsi h 1262 0 0))) else (if ¬ (hi h 1262 87) = 1 then (match f_m_sort (hsi (hsi h 1262 0 0) 1262 87 ((hi h 1262 87) - 1)) with | none => none | some r3 => (match f_m_told r3.1 r3.2 with | none => none | some r6 => (some (r6.1, r6.2)))) else (some ((-1), (hsi h 1262 0 0)))))
set_option maxRecDepth 20000 in
theorem kf_m_up {l : Launch} {G : XG} {d : Nat} {h : XH} {r : Int32 × XH} (L0 : LY h) (hf : f_m_up h = some r) : XC l G xEX12_up (d + 1) [.ref 1262] h (fun v h2 => (h2 = r.2 ∧ v = some (.int r.1)) ∧ LY r.2) := by
  refine XC.virt xvX12_up (Nat.le_of_ble_eq_true rfl) ?_
  unfold f_m_up at hf
  refine XS.go (s_aloadn rfl rfl rfl) ?_
  refine XS.go (s_iconst (v := 0) rfl rfl) ?_
  refine XS.go (s_puti rfl xf12_175 (LY.lt L0 (by decide)) (LY.k1262 L0) (by decide) rfl (Or.inl rfl)) ?_
  refine XS.go (s_aloadn rfl rfl rfl) ?_
  refine XS.go (s_getze rfl xf12_360 (LY.lt (by simp only [LY_si, LY_sj]; exact L0) (by decide)) (LY.k1262 (by simp only [LY_si, LY_sj]; exact L0)) (by decide) rfl (hi_hsi_nk (by decide))) ?_
  refine r_if_eq (tgt := 20) rfl rfl (fun qc1 => ?_) (fun qc1 => ?_)
  · rw [if_pos qc1] at hf
    refine XS.go (s_iconst (v := (-1)) rfl rfl) ?_
    cases hf
    exact XR.reti rfl rfl (fun hret => ⟨_, hret, ⟨rfl, rfl⟩, (by simp only [LY_si, LY_sj]; exact L0)⟩)
  · rw [if_neg qc1] at hf
    refine XS.go (s_aloadn rfl rfl rfl) ?_
    refine XS.go (s_getie rfl xf12_500 (LY.lt (by simp only [LY_si, LY_sj]; exact L0) (by decide)) (LY.k1262 (by simp only [LY_si, LY_sj]; exact L0)) (by decide) rfl (hi_hsi_nk (by decide))) ?_
    refine XS.go (s_iconst (v := 1) rfl rfl) ?_
    refine r_icmp_ne (tgt := 22) rfl rfl (fun qc2 => ?_) (fun qc2 => ?_)
    · rw [if_pos qc2] at hf
      refine XS.go (s_aloadn rfl rfl rfl) ?_
      refine XS.go (s_dup rfl rfl) ?_
      refine XS.go (s_getie rfl xf12_500 (LY.lt (by simp only [LY_si, LY_sj]; exact L0) (by decide)) (LY.k1262 (by simp only [LY_si, LY_sj]; exact L0)) (by decide) rfl (hi_hsi_nk (by decide))) ?_
      refine XS.go (s_iconst (v := 1) rfl rfl) ?_
      refine XS.go (s_isub rfl) ?_
      refine XS.go (s_puti rfl xf12_500 (LY.lt (by simp only [LY_si, LY_sj]; exact L0) (by decide)) (LY.k1262 (by simp only [LY_si, LY_sj]; exact L0)) (by decide) rfl (Or.inl rfl)) ?_
      refine XS.go (s_aloadn rfl rfl rfl) ?_
      rcases e4 : f_m_sort (hsi (hsi h 1262 0 0) 1262 87 ((hi h 1262 87) - 1)) with _ | r3
      · rw [e4] at hf; cases hf
      rw [e4] at hf; dsimp only at hf
      refine r_callv rfl xvX12_sort xm12_515 (kf_m_sort (d := d) (by simp only [LY_si, LY_sj]; exact L0) e4) (LY.lt (by simp only [LY_si, LY_sj]; exact L0) (by decide)) (LY.k1262 (by simp only [LY_si, LY_sj]; exact L0)) (by decide) rfl rfl (by omega) (by decide) (Nat.le_of_ble_eq_true rfl) ?_
      rintro _ _ ⟨⟨rfl, rfl⟩, L5⟩
      rcases e7 : f_m_told r3.1 r3.2 with _ | r6
      · rw [e7] at hf; cases hf
      rw [e7] at hf; dsimp only at hf
      refine r_calls rfl xsX12_told xm12_524 (kf_m_told (d := d) L5 e7) rfl rfl (by omega) (by decide) (Nat.le_of_ble_eq_true rfl) ?_
      rintro _ _ ⟨⟨rfl, rfl⟩, L8⟩
      cases hf
      exact XR.reti rfl rfl (fun hret => ⟨_, hret, ⟨rfl, rfl⟩, L8⟩)
    · rw [if_neg qc2] at hf
      refine XS.go (s_iconst (v := (-1)) rfl rfl) ?_
      cases hf
      exact XR.reti rfl rfl (fun hret => ⟨_, hret, ⟨rfl, rfl⟩, (by simp only [LY_si, LY_sj]; exact L0)⟩)
def f_m_byteAt (a0 : Int32) (h : XH) : Option (Int32 × XH) := (if (hi h 1262 81) = 0 then (some ((-1), (hsi h 1262 0 0))) else (if a0 < 0 then (some ((-1), (hsi h 1262 0 0))) else (if (hi h 1262 80) ≤ a0 then (some ((-1), (hsi h 1262 0 0))) else (if 0 ≤ a0 ∧ a0 < nI 4000 then (some ((hi h 1311 (Int32.toNatClampNeg a0)), (hsi h 1262 0 0))) else none))))
set_option maxRecDepth 20000 in
theorem kf_m_byteAt {l : Launch} {G : XG} {d : Nat} {a0 : Int32} {h : XH} {r : Int32 × XH} (L0 : LY h) (hf : f_m_byteAt a0 h = some r) : XC l G xEX12_byteAt d [.ref 1262, .int a0] h (fun v h2 => (h2 = r.2 ∧ v = some (.int r.1)) ∧ LY r.2) := by
  refine XC.virt xvX12_byteAt (Nat.le_of_ble_eq_true rfl) ?_
  unfold f_m_byteAt at hf
  refine XS.go (s_aloadn rfl rfl rfl) ?_
  refine XS.go (s_iconst (v := 0) rfl rfl) ?_
  refine XS.go (s_puti rfl xf12_175 (LY.lt L0 (by decide)) (LY.k1262 L0) (by decide) rfl (Or.inl rfl)) ?_
  refine XS.go (s_aloadn rfl rfl rfl) ?_
  refine XS.go (s_getze rfl xf12_360 (LY.lt (by simp only [LY_si, LY_sj]; exact L0) (by decide)) (LY.k1262 (by simp only [LY_si, LY_sj]; exact L0)) (by decide) rfl (hi_hsi_nk (by decide))) ?_
  refine r_if_eq (tgt := 33) rfl rfl (fun qc1 => ?_) (fun qc1 => ?_)
  · rw [if_pos qc1] at hf
    refine XS.go (s_iconst (v := (-1)) rfl rfl) ?_
    cases hf
    exact XR.reti rfl rfl (fun hret => ⟨_, hret, ⟨rfl, rfl⟩, (by simp only [LY_si, LY_sj]; exact L0)⟩)
  · rw [if_neg qc1] at hf
    refine XS.go (s_iloadn rfl rfl rfl) ?_
    refine r_if_lt (tgt := 33) rfl rfl (fun qc2 => ?_) (fun qc2 => ?_)
    · rw [if_pos qc2] at hf
      refine XS.go (s_iconst (v := (-1)) rfl rfl) ?_
      cases hf
      exact XR.reti rfl rfl (fun hret => ⟨_, hret, ⟨rfl, rfl⟩, (by simp only [LY_si, LY_sj]; exact L0)⟩)
    · rw [if_neg qc2] at hf
      refine XS.go (s_iloadn rfl rfl rfl) ?_
      refine XS.go (s_aloadn rfl rfl rfl) ?_
      refine XS.go (s_getie rfl xf12_444 (LY.lt (by simp only [LY_si, LY_sj]; exact L0) (by decide)) (LY.k1262 (by simp only [LY_si, LY_sj]; exact L0)) (by decide) rfl (hi_hsi_nk (by decide))) ?_
      refine r_icmp_ge (tgt := 33) rfl rfl (fun qc3 => ?_) (fun qc3 => ?_)
      · rw [if_pos qc3] at hf
        refine XS.go (s_iconst (v := (-1)) rfl rfl) ?_
        cases hf
        exact XR.reti rfl rfl (fun hret => ⟨_, hret, ⟨rfl, rfl⟩, (by simp only [LY_si, LY_sj]; exact L0)⟩)
      · rw [if_neg qc3] at hf
        refine XS.go (s_aloadn rfl rfl rfl) ?_
        refine XS.go (s_getr rfl xf12_160 (LY.lt (by simp only [LY_si, LY_sj]; exact L0) (by decide)) (LY.k1262 (by simp only [LY_si, LY_sj]; exact L0)) (by decide) rfl (LY.r1262_79 (by simp only [LY_si, LY_sj]; exact L0))) ?_
        refine XS.go (s_iloadn rfl rfl rfl) ?_
        by_cases qk4 : 0 ≤ a0 ∧ a0 < nI 4000
        rotate_left
        · rw [if_neg qk4] at hf; cases hf
        rw [if_pos qk4] at hf
        refine XS.go (s_ialde rfl (LY.lt (by simp only [LY_si, LY_sj]; exact L0) (by decide)) (LY.k1311 (by simp only [LY_si, LY_sj]; exact L0)) (inLit (LY.n1311 (by simp only [LY_si, LY_sj]; exact L0)) qk4.1 qk4.2 (by decide)) (hi_hsi_na (by decide))) ?_
        refine XS.go (s_goto (tgt := 34) rfl rfl) ?_
        cases hf
        exact XR.reti rfl rfl (fun hret => ⟨_, hret, ⟨rfl, rfl⟩, (by simp only [LY_si, LY_sj]; exact L0)⟩)
