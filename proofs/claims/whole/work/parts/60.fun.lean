/-! Methods as functions of the heap -/
def b_m_finish_104 : Nat → Int32 → XH → Option (Int32 × XH)
  | 0, _, _ => none
  | n + 1, x3, h => (if (hi h 1262 57) ≤ x3 then (match f_m_empty h with | none => none | some r2 => (some ((hi r2.2 1262 72), r2.2))) else (if 0 ≤ (((hi h 1262 57) - 1) - x3) ∧ (((hi h 1262 57) - 1) - x3) < nI 4300 then (if 0 ≤ x3 ∧ x3 < nI 4000 then (b_m_finish_104 n (x3 + 1) (hsi h 1308 (Int32.toNatClampNeg x3) (hi h 1299 (Int32.toNatClampNeg (((hi h 1262 57) - 1) - x3))))) else none) else none))
set_option maxRecDepth 20000 in
theorem kb_m_finish_104 {l : Launch} {G : XG} {d : Nat} {n : Nat} {x3 : Int32} {h : XH} {r : Int32 × XH} (L0 : LY h) (hf : b_m_finish_104 n x3 h = some r) : XR l G xEX12_finish (d + 2) (104, [some (.ref 1262), none, none, some (.int x3)], [], h) (fun C => ∃ v, xRet xEX12_finish C v ∧ (C.2.2.2 = r.2 ∧ v = some (.int r.1)) ∧ LY r.2) := by
  induction n generalizing x3 h with
  | zero => cases hf
  | succ n ih =>
    replace ih : ∀ (x3 : Int32) (h : XH), LY h → b_m_finish_104 n x3 h = some r → XR l G xEX12_finish (d + 2) (104, [some (.ref 1262), none, none, some (.int x3)], [], h) (fun C => ∃ v, xRet xEX12_finish C v ∧ (C.2.2.2 = r.2 ∧ v = some (.int r.1)) ∧ LY r.2) := fun x3 h L0 hf => ih (h := h) (x3 := x3) L0 hf
    rw [b_m_finish_104] at hf
    refine XS.go (s_iloadn rfl rfl rfl) ?_
    refine XS.go (s_aloadn rfl rfl rfl) ?_
    refine XS.go (s_getie rfl xf12_382 (LY.lt L0 (by decide)) (LY.k1262 L0) (by decide) rfl rfl) ?_
    refine r_icmp_ge (tgt := 137) rfl rfl (fun qc1 => ?_) (fun qc1 => ?_)
    · rw [if_pos qc1] at hf
      refine XS.go (s_aloadn rfl rfl rfl) ?_
      rcases e3 : f_m_empty h with _ | r2
      · rw [e3] at hf; cases hf
      rw [e3] at hf; dsimp only at hf
      refine r_callv rfl xvX12_empty xm12_357 (kf_m_empty (d := d) L0 e3) (LY.lt L0 (by decide)) (LY.k1262 L0) (by decide) rfl rfl (by omega) (by decide) (Nat.le_of_ble_eq_true rfl) ?_
      rintro _ _ ⟨⟨rfl, rfl⟩, L4⟩
      refine XS.go (s_aloadn rfl rfl rfl) ?_
      refine XS.go (s_getie rfl xf12_441 (LY.lt L4 (by decide)) (LY.k1262 L4) (by decide) rfl rfl) ?_
      cases hf
      exact XR.reti rfl rfl (fun hret => ⟨_, hret, ⟨rfl, rfl⟩, L4⟩)
    · rw [if_neg qc1] at hf
      refine XS.go (s_aloadn rfl rfl rfl) ?_
      refine XS.go (s_getr rfl xf12_151 (LY.lt L0 (by decide)) (LY.k1262 L0) (by decide) rfl (LY.r1262_71 L0)) ?_
      refine XS.go (s_iloadn rfl rfl rfl) ?_
      refine XS.go (s_aloadn rfl rfl rfl) ?_
      refine XS.go (s_getr rfl xf12_119 (LY.lt L0 (by decide)) (LY.k1262 L0) (by decide) rfl (LY.r1262_56 L0)) ?_
      refine XS.go (s_aloadn rfl rfl rfl) ?_
      refine XS.go (s_getie rfl xf12_382 (LY.lt L0 (by decide)) (LY.k1262 L0) (by decide) rfl rfl) ?_
      refine XS.go (s_iconst (v := 1) rfl rfl) ?_
      refine XS.go (s_isub rfl) ?_
      refine XS.go (s_iloadn rfl rfl rfl) ?_
      refine XS.go (s_isub rfl) ?_
      by_cases qk5 : 0 ≤ (((hi h 1262 57) - 1) - x3) ∧ (((hi h 1262 57) - 1) - x3) < nI 4300
      rotate_left
      · rw [if_neg qk5] at hf; cases hf
      rw [if_pos qk5] at hf
      refine XS.go (s_ialde rfl (LY.lt L0 (by decide)) (LY.k1299 L0) (inLit (LY.n1299 L0) qk5.1 qk5.2 (by decide)) rfl) ?_
      by_cases qk6 : 0 ≤ x3 ∧ x3 < nI 4000
      rotate_left
      · rw [if_neg qk6] at hf; cases hf
      rw [if_pos qk6] at hf
      refine XS.go (s_iast rfl (LY.lt L0 (by decide)) (LY.k1308 L0) (inLit (LY.n1308 L0) qk6.1 qk6.2 (by decide))) ?_
      refine XS.go (s_inc rfl rfl (Nat.le_of_ble_eq_true rfl)) ?_
      refine XS.go (s_goto (tgt := 104) rfl rfl) ?_
      exact XR.forget (L2 := [some (.ref 1262), none, none, some (.int (x3 + 1))]) ⟨rfl, ⟨rfl, trivial⟩⟩ (ih (x3 + 1) _ (by simp only [LY_si, LY_sj]; exact L0) hf)
def b_m_finish_42 (h : XH) : Option (Int32 × XH) := (some (0, (hsi h 1262 0 2)))
set_option maxRecDepth 20000 in
theorem kb_m_finish_42 {l : Launch} {G : XG} {d : Nat} {h : XH} {r : Int32 × XH} (L0 : LY h) (hf : b_m_finish_42 h = some r) : XR l G xEX12_finish (d + 2) (42, [some (.ref 1262), none, none, none], [], h) (fun C => ∃ v, xRet xEX12_finish C v ∧ (C.2.2.2 = r.2 ∧ v = some (.int r.1)) ∧ LY r.2) := by
  unfold b_m_finish_42 at hf
  refine XS.go (s_aloadn rfl rfl rfl) ?_
  refine XS.go (s_iconst (v := 2) rfl rfl) ?_
  refine XS.go (s_puti rfl xf12_175 (LY.lt L0 (by decide)) (LY.k1262 L0) (by decide) rfl (Or.inl rfl)) ?_
  refine XS.go (s_iconst (v := 0) rfl rfl) ?_
  cases hf
  exact XR.reti rfl rfl (fun hret => ⟨_, hret, ⟨rfl, rfl⟩, (by simp only [LY_si, LY_sj]; exact L0)⟩)
def f_m_finish (a0 : Int32) (h : XH) : Option (Int32 × XH) := (if (hi h 1262 67) = (-1) then (if (hi h 1262 7) = 0 then (b_m_finish_42 (hsi h 1262 0 0)) else (match f_m_isThing (Int32.toInt64 a0) 3 (-1) (hi h 1262 45) (hsi h 1262 0 0) with | none => none | some r9 => (if ¬ r9.1 = 0 then (match f_m_fill (hi r9.2 1262 57) 4 (hi r9.2 1262 58) r9.2 with | none => none | some r13 => (if (((hi r13.2 1262 57) + r13.1) + 4) ≤ 4000 then (match f_m_zeros r13.1 r13.2 with | none => none | some r17 => (match f_m_reference a0 r17.2 with | none => none | some r20 => (b_m_finish_104 100000 0 (hsi r20.2 1262 72 (hi r20.2 1262 57))))) else (some (0, (hsi r13.2 1262 0 3))))) else (b_m_finish_42 r9.2)))) else (some (0, (hsi (hsi h 1262 0 0) 1262 0 1))))
set_option maxRecDepth 20000 in
theorem kf_m_finish {l : Launch} {G : XG} {d : Nat} {a0 : Int32} {h : XH} {r : Int32 × XH} (L0 : LY h) (hf : f_m_finish a0 h = some r) : XC l G xEX12_finish (d + 2) [.ref 1262, .int a0] h (fun v h2 => (h2 = r.2 ∧ v = some (.int r.1)) ∧ LY r.2) := by
  refine XC.virt xvX12_finish (Nat.le_of_ble_eq_true rfl) ?_
  unfold f_m_finish at hf
  refine XS.go (s_aloadn rfl rfl rfl) ?_
  refine XS.go (s_iconst (v := 0) rfl rfl) ?_
  refine XS.go (s_puti rfl xf12_175 (LY.lt L0 (by decide)) (LY.k1262 L0) (by decide) rfl (Or.inl rfl)) ?_
  refine XS.go (s_aloadn rfl rfl rfl) ?_
  refine XS.go (s_getie rfl xf12_140 (LY.lt (by simp only [LY_si, LY_sj]; exact L0) (by decide)) (LY.k1262 (by simp only [LY_si, LY_sj]; exact L0)) (by decide) rfl (hi_hsi_nk (by decide))) ?_
  refine XS.go (s_iconst (v := (-1)) rfl rfl) ?_
  refine r_icmp_eq (tgt := 20) rfl rfl (fun qc7 => ?_) (fun qc7 => ?_)
  · rw [if_pos qc7] at hf
    refine XS.go (s_aloadn rfl rfl rfl) ?_
    refine XS.go (s_getze rfl xf12_353 (LY.lt (by simp only [LY_si, LY_sj]; exact L0) (by decide)) (LY.k1262 (by simp only [LY_si, LY_sj]; exact L0)) (by decide) rfl (hi_hsi_nk (by decide))) ?_
    refine r_if_eq (tgt := 42) rfl rfl (fun qc8 => ?_) (fun qc8 => ?_)
    · rw [if_pos qc8] at hf
      exact XR.forget (L2 := [some (.ref 1262), none, none, none]) ⟨rfl, trivial⟩ (kb_m_finish_42 (by simp only [LY_si, LY_sj]; exact L0) hf)
    · rw [if_neg qc8] at hf
      refine XS.go (s_aloadn rfl rfl rfl) ?_
      refine XS.go (s_iloadn rfl rfl rfl) ?_
      refine XS.go (s_i2l rfl) ?_
      refine XS.go (s_iconst (v := 3) rfl rfl) ?_
      refine XS.go (s_iconst (v := (-1)) rfl rfl) ?_
      refine XS.go (s_aloadn rfl rfl rfl) ?_
      refine XS.go (s_getie rfl xf12_338 (LY.lt (by simp only [LY_si, LY_sj]; exact L0) (by decide)) (LY.k1262 (by simp only [LY_si, LY_sj]; exact L0)) (by decide) rfl (hi_hsi_nk (by decide))) ?_
      rcases e10 : f_m_isThing (Int32.toInt64 a0) 3 (-1) (hi h 1262 45) (hsi h 1262 0 0) with _ | r9
      · rw [e10] at hf; cases hf
      rw [e10] at hf; dsimp only at hf
      refine r_callv rfl xvX12_isThing xm12_416 (kf_m_isThing (d := d) (by simp only [LY_si, LY_sj]; exact L0) e10) (LY.lt (by simp only [LY_si, LY_sj]; exact L0) (by decide)) (LY.k1262 (by simp only [LY_si, LY_sj]; exact L0)) (by decide) rfl rfl (by omega) (by decide) (Nat.le_of_ble_eq_true rfl) ?_
      rintro _ _ ⟨⟨rfl, rfl⟩, L11⟩
      refine r_if_ne (tgt := 49) rfl rfl (fun qc12 => ?_) (fun qc12 => ?_)
      · rw [if_pos qc12] at hf
        refine XS.go (s_aloadn rfl rfl rfl) ?_
        refine XS.go (s_aloadn rfl rfl rfl) ?_
        refine XS.go (s_getie rfl xf12_382 (LY.lt L11 (by decide)) (LY.k1262 L11) (by decide) rfl rfl) ?_
        refine XS.go (s_iconst (v := 4) rfl rfl) ?_
        refine XS.go (s_aloadn rfl rfl rfl) ?_
        refine XS.go (s_getie rfl xf12_385 (LY.lt L11 (by decide)) (LY.k1262 L11) (by decide) rfl rfl) ?_
        rcases e14 : f_m_fill (hi r9.2 1262 57) 4 (hi r9.2 1262 58) r9.2 with _ | r13
        · rw [e14] at hf; cases hf
        rw [e14] at hf; dsimp only at hf
        refine r_callv rfl xvX12_fill xm12_400 (kf_m_fill (d := d) L11 e14) (LY.lt L11 (by decide)) (LY.k1262 L11) (by decide) rfl rfl (by omega) (by decide) (Nat.le_of_ble_eq_true rfl) ?_
        rintro _ _ ⟨⟨rfl, rfl⟩, L15⟩
        refine XS.go (s_istoren rfl rfl (Nat.le_of_ble_eq_true rfl)) ?_
        refine XS.go (s_aloadn rfl rfl rfl) ?_
        refine XS.go (s_getie rfl xf12_382 (LY.lt L15 (by decide)) (LY.k1262 L15) (by decide) rfl rfl) ?_
        refine XS.go (s_iloadn rfl rfl rfl) ?_
        refine XS.go (s_iadd rfl) ?_
        refine XS.go (s_iconst (v := 4) rfl rfl) ?_
        refine XS.go (s_iadd rfl) ?_
        refine XS.go (s_sipush (v := 4000) rfl rfl) ?_
        refine r_icmp_le (tgt := 84) rfl rfl (fun qc16 => ?_) (fun qc16 => ?_)
        · rw [if_pos qc16] at hf
          refine XS.go (s_aloadn rfl rfl rfl) ?_
          refine XS.go (s_iloadn rfl rfl rfl) ?_
          rcases e18 : f_m_zeros r13.1 r13.2 with _ | r17
          · rw [e18] at hf; cases hf
          rw [e18] at hf; dsimp only at hf
          refine r_callv rfl xvX12_zeros xm12_407 (kf_m_zeros (d := d) L15 e18) (LY.lt L15 (by decide)) (LY.k1262 L15) (by decide) rfl rfl (by omega) (by decide) (Nat.le_of_ble_eq_true rfl) ?_
          rintro _ _ ⟨⟨rfl, rfl⟩, L19⟩
          refine XS.go (s_aloadn rfl rfl rfl) ?_
          refine XS.go (s_iloadn rfl rfl rfl) ?_
          rcases e21 : f_m_reference a0 r17.2 with _ | r20
          · rw [e21] at hf; cases hf
          rw [e21] at hf; dsimp only at hf
          refine r_callv rfl xvX12_reference xm12_423 (kf_m_reference (d := d) L19 e21) (LY.lt L19 (by decide)) (LY.k1262 L19) (by decide) rfl rfl (by omega) (by decide) (Nat.le_of_ble_eq_true rfl) ?_
          rintro _ _ ⟨⟨rfl, rfl⟩, L22⟩
          refine XS.go (s_aloadn rfl rfl rfl) ?_
          refine XS.go (s_aloadn rfl rfl rfl) ?_
          refine XS.go (s_getie rfl xf12_382 (LY.lt L22 (by decide)) (LY.k1262 L22) (by decide) rfl rfl) ?_
          refine XS.go (s_puti rfl xf12_441 (LY.lt L22 (by decide)) (LY.k1262 L22) (by decide) rfl (Or.inl rfl)) ?_
          refine XS.go (s_iconst (v := 0) rfl rfl) ?_
          refine XS.go (s_istoren rfl rfl (Nat.le_of_ble_eq_true rfl)) ?_
          exact XR.forget (L2 := [some (.ref 1262), none, none, some (.int 0)]) ⟨rfl, ⟨rfl, trivial⟩⟩ (kb_m_finish_104 (by simp only [LY_si, LY_sj]; exact L22) hf)
        · rw [if_neg qc16] at hf
          refine XS.go (s_aloadn rfl rfl rfl) ?_
          refine XS.go (s_iconst (v := 3) rfl rfl) ?_
          refine XS.go (s_puti rfl xf12_175 (LY.lt L15 (by decide)) (LY.k1262 L15) (by decide) rfl (Or.inl rfl)) ?_
          refine XS.go (s_iconst (v := 0) rfl rfl) ?_
          cases hf
          exact XR.reti rfl rfl (fun hret => ⟨_, hret, ⟨rfl, rfl⟩, (by simp only [LY_si, LY_sj]; exact L15)⟩)
      · rw [if_neg qc12] at hf
        exact XR.forget (L2 := [some (.ref 1262), none, none, none]) ⟨rfl, trivial⟩ (kb_m_finish_42 L11 hf)
  · rw [if_neg qc7] at hf
    refine XS.go (s_aloadn rfl rfl rfl) ?_
    refine XS.go (s_iconst (v := 1) rfl rfl) ?_
    refine XS.go (s_puti rfl xf12_175 (LY.lt (by simp only [LY_si, LY_sj]; exact L0) (by decide)) (LY.k1262 (by simp only [LY_si, LY_sj]; exact L0)) (by decide) rfl (Or.inl rfl)) ?_
    refine XS.go (s_iconst (v := 0) rfl rfl) ?_
    cases hf
    exact XR.reti rfl rfl (fun hret => ⟨_, hret, ⟨rfl, rfl⟩, (by simp only [LY_si, LY_sj]; exact L0)⟩)
def f_m_clear (h : XH) : Option (Int32 × XH) := (match f_m_empty (hsi h 1262 0 0) with | none => none | some r1 => (some ((hi h 1262 57), r1.2)))
set_option maxRecDepth 20000 in
theorem kf_m_clear {l : Launch} {G : XG} {d : Nat} {h : XH} {r : Int32 × XH} (L0 : LY h) (hf : f_m_clear h = some r) : XC l G xEX12_clear (d + 1) [.ref 1262] h (fun v h2 => (h2 = r.2 ∧ v = some (.int r.1)) ∧ LY r.2) := by
  refine XC.virt xvX12_clear (Nat.le_of_ble_eq_true rfl) ?_
  unfold f_m_clear at hf
  refine XS.go (s_aloadn rfl rfl rfl) ?_
  refine XS.go (s_iconst (v := 0) rfl rfl) ?_
  refine XS.go (s_puti rfl xf12_175 (LY.lt L0 (by decide)) (LY.k1262 L0) (by decide) rfl (Or.inl rfl)) ?_
  refine XS.go (s_aloadn rfl rfl rfl) ?_
  refine XS.go (s_getie rfl xf12_382 (LY.lt (by simp only [LY_si, LY_sj]; exact L0) (by decide)) (LY.k1262 (by simp only [LY_si, LY_sj]; exact L0)) (by decide) rfl (hi_hsi_nk (by decide))) ?_
  refine XS.go (s_istoren rfl rfl (Nat.le_of_ble_eq_true rfl)) ?_
  refine XS.go (s_aloadn rfl rfl rfl) ?_
  rcases e2 : f_m_empty (hsi h 1262 0 0) with _ | r1
  · rw [e2] at hf; cases hf
  rw [e2] at hf; dsimp only at hf
  refine r_callv rfl xvX12_empty xm12_357 (kf_m_empty (d := d) (by simp only [LY_si, LY_sj]; exact L0) e2) (LY.lt (by simp only [LY_si, LY_sj]; exact L0) (by decide)) (LY.k1262 (by simp only [LY_si, LY_sj]; exact L0)) (by decide) rfl rfl (by omega) (by decide) (Nat.le_of_ble_eq_true rfl) ?_
  rintro _ _ ⟨⟨rfl, rfl⟩, L3⟩
  refine XS.go (s_iloadn rfl rfl rfl) ?_
  cases hf
  exact XR.reti rfl rfl (fun hret => ⟨_, hret, ⟨rfl, rfl⟩, L3⟩)
def f_m_out (a0 : Int32) (h : XH) : Option (Int32 × XH) := (if a0 < 0 then (some ((-1), (hsi h 1262 0 0))) else (if (hi h 1262 72) ≤ a0 then (some ((-1), (hsi h 1262 0 0))) else (if 0 ≤ a0 ∧ a0 < nI 4000 then (some ((hi h 1308 (Int32.toNatClampNeg a0)), (hsi h 1262 0 0))) else none)))
set_option maxRecDepth 20000 in
theorem kf_m_out {l : Launch} {G : XG} {d : Nat} {a0 : Int32} {h : XH} {r : Int32 × XH} (L0 : LY h) (hf : f_m_out a0 h = some r) : XC l G xEX12_out d [.ref 1262, .int a0] h (fun v h2 => (h2 = r.2 ∧ v = some (.int r.1)) ∧ LY r.2) := by
  refine XC.virt xvX12_out (Nat.le_of_ble_eq_true rfl) ?_
  unfold f_m_out at hf
  refine XS.go (s_aloadn rfl rfl rfl) ?_
  refine XS.go (s_iconst (v := 0) rfl rfl) ?_
  refine XS.go (s_puti rfl xf12_175 (LY.lt L0 (by decide)) (LY.k1262 L0) (by decide) rfl (Or.inl rfl)) ?_
  refine XS.go (s_iloadn rfl rfl rfl) ?_
  refine r_if_lt (tgt := 26) rfl rfl (fun qc1 => ?_) (fun qc1 => ?_)
  · rw [if_pos qc1] at hf
    refine XS.go (s_iconst (v := (-1)) rfl rfl) ?_
    cases hf
    exact XR.reti rfl rfl (fun hret => ⟨_, hret, ⟨rfl, rfl⟩, (by simp only [LY_si, LY_sj]; exact L0)⟩)
  · rw [if_neg qc1] at hf
    refine XS.go (s_iloadn rfl rfl rfl) ?_
    refine XS.go (s_aloadn rfl rfl rfl) ?_
    refine XS.go (s_getie rfl xf12_441 (LY.lt (by simp only [LY_si, LY_sj]; exact L0) (by decide)) (LY.k1262 (by simp only [LY_si, LY_sj]; exact L0)) (by decide) rfl (hi_hsi_nk (by decide))) ?_
    refine r_icmp_ge (tgt := 26) rfl rfl (fun qc2 => ?_) (fun qc2 => ?_)
    · rw [if_pos qc2] at hf
      refine XS.go (s_iconst (v := (-1)) rfl rfl) ?_
      cases hf
      exact XR.reti rfl rfl (fun hret => ⟨_, hret, ⟨rfl, rfl⟩, (by simp only [LY_si, LY_sj]; exact L0)⟩)
    · rw [if_neg qc2] at hf
      refine XS.go (s_aloadn rfl rfl rfl) ?_
      refine XS.go (s_getr rfl xf12_151 (LY.lt (by simp only [LY_si, LY_sj]; exact L0) (by decide)) (LY.k1262 (by simp only [LY_si, LY_sj]; exact L0)) (by decide) rfl (LY.r1262_71 (by simp only [LY_si, LY_sj]; exact L0))) ?_
      refine XS.go (s_iloadn rfl rfl rfl) ?_
      by_cases qk3 : 0 ≤ a0 ∧ a0 < nI 4000
      rotate_left
      · rw [if_neg qk3] at hf; cases hf
      rw [if_pos qk3] at hf
      refine XS.go (s_ialde rfl (LY.lt (by simp only [LY_si, LY_sj]; exact L0) (by decide)) (LY.k1308 (by simp only [LY_si, LY_sj]; exact L0)) (inLit (LY.n1308 (by simp only [LY_si, LY_sj]; exact L0)) qk3.1 qk3.2 (by decide)) (hi_hsi_na (by decide))) ?_
      refine XS.go (s_goto (tgt := 27) rfl rfl) ?_
      cases hf
      exact XR.reti rfl rfl (fun hret => ⟨_, hret, ⟨rfl, rfl⟩, (by simp only [LY_si, LY_sj]; exact L0)⟩)
def f_m_count (a0 : Int32) (h : XH) : Option (Int32 × XH) := (if a0 = 0 then (some ((hi h 1262 2), (hsi h 1262 0 0))) else (if a0 = 1 then (some ((hi h 1262 55), (hsi h 1262 0 0))) else (if a0 = 2 then (some ((hi h 1262 57), (hsi h 1262 0 0))) else (if a0 = 3 then (some ((hi h 1262 59), (hsi h 1262 0 0))) else (if a0 = 4 then (some ((hi h 1262 67), (hsi h 1262 0 0))) else (if a0 = 5 then (some ((hi h 1262 72), (hsi h 1262 0 0))) else (if a0 = 6 then (if (hi h 1262 81) = 0 then (some (0, (hsi h 1262 0 0))) else (some ((hi h 1262 80), (hsi h 1262 0 0)))) else (if a0 = 7 then (some ((hi h 1262 64), (hsi h 1262 0 0))) else (if a0 = 8 then (some ((hi h 1262 82), (hsi h 1262 0 0))) else (some ((-1), (hsi h 1262 0 0))))))))))))
set_option maxRecDepth 20000 in
theorem kf_m_count {l : Launch} {G : XG} {d : Nat} {a0 : Int32} {h : XH} {r : Int32 × XH} (L0 : LY h) (hf : f_m_count a0 h = some r) : XC l G xEX12_count d [.ref 1262, .int a0] h (fun v h2 => (h2 = r.2 ∧ v = some (.int r.1)) ∧ LY r.2) := by
  refine XC.virt xvX12_count (Nat.le_of_ble_eq_true rfl) ?_
  unfold f_m_count at hf
  refine XS.go (s_aloadn rfl rfl rfl) ?_
  refine XS.go (s_iconst (v := 0) rfl rfl) ?_
  refine XS.go (s_puti rfl xf12_175 (LY.lt L0 (by decide)) (LY.k1262 L0) (by decide) rfl (Or.inl rfl)) ?_
  refine XS.go (s_iloadn rfl rfl rfl) ?_
  by_cases qs1_0 : a0 = 0
  · rw [if_pos qs1_0] at hf
    refine XS.go (s_tswI (tgt := 56) rfl (by rw [qs1_0]; decide) (by rw [qs1_0]; decide) (by rw [qs1_0]; rfl) rfl) ?_
    refine XS.go (s_aloadn rfl rfl rfl) ?_
    refine XS.go (s_getie rfl xf12_178 (LY.lt (by simp only [LY_si, LY_sj]; exact L0) (by decide)) (LY.k1262 (by simp only [LY_si, LY_sj]; exact L0)) (by decide) rfl (hi_hsi_nk (by decide))) ?_
    cases hf
    exact XR.reti rfl rfl (fun hret => ⟨_, hret, ⟨rfl, rfl⟩, (by simp only [LY_si, LY_sj]; exact L0)⟩)
  rw [if_neg qs1_0] at hf
  by_cases qs1_1 : a0 = 1
  · rw [if_pos qs1_1] at hf
    refine XS.go (s_tswI (tgt := 61) rfl (by rw [qs1_1]; decide) (by rw [qs1_1]; decide) (by rw [qs1_1]; rfl) rfl) ?_
    refine XS.go (s_aloadn rfl rfl rfl) ?_
    refine XS.go (s_getie rfl xf12_379 (LY.lt (by simp only [LY_si, LY_sj]; exact L0) (by decide)) (LY.k1262 (by simp only [LY_si, LY_sj]; exact L0)) (by decide) rfl (hi_hsi_nk (by decide))) ?_
    cases hf
    exact XR.reti rfl rfl (fun hret => ⟨_, hret, ⟨rfl, rfl⟩, (by simp only [LY_si, LY_sj]; exact L0)⟩)
  rw [if_neg qs1_1] at hf
  by_cases qs1_2 : a0 = 2
  · rw [if_pos qs1_2] at hf
    refine XS.go (s_tswI (tgt := 66) rfl (by rw [qs1_2]; decide) (by rw [qs1_2]; decide) (by rw [qs1_2]; rfl) rfl) ?_
    refine XS.go (s_aloadn rfl rfl rfl) ?_
    refine XS.go (s_getie rfl xf12_382 (LY.lt (by simp only [LY_si, LY_sj]; exact L0) (by decide)) (LY.k1262 (by simp only [LY_si, LY_sj]; exact L0)) (by decide) rfl (hi_hsi_nk (by decide))) ?_
    cases hf
    exact XR.reti rfl rfl (fun hret => ⟨_, hret, ⟨rfl, rfl⟩, (by simp only [LY_si, LY_sj]; exact L0)⟩)
  rw [if_neg qs1_2] at hf
  by_cases qs1_3 : a0 = 3
  · rw [if_pos qs1_3] at hf
    refine XS.go (s_tswI (tgt := 71) rfl (by rw [qs1_3]; decide) (by rw [qs1_3]; decide) (by rw [qs1_3]; rfl) rfl) ?_
    refine XS.go (s_aloadn rfl rfl rfl) ?_
    refine XS.go (s_getie rfl xf12_388 (LY.lt (by simp only [LY_si, LY_sj]; exact L0) (by decide)) (LY.k1262 (by simp only [LY_si, LY_sj]; exact L0)) (by decide) rfl (hi_hsi_nk (by decide))) ?_
    cases hf
    exact XR.reti rfl rfl (fun hret => ⟨_, hret, ⟨rfl, rfl⟩, (by simp only [LY_si, LY_sj]; exact L0)⟩)
  rw [if_neg qs1_3] at hf
  by_cases qs1_4 : a0 = 4
  · rw [if_pos qs1_4] at hf
    refine XS.go (s_tswI (tgt := 76) rfl (by rw [qs1_4]; decide) (by rw [qs1_4]; decide) (by rw [qs1_4]; rfl) rfl) ?_
    refine XS.go (s_aloadn rfl rfl rfl) ?_
    refine XS.go (s_getie rfl xf12_140 (LY.lt (by simp only [LY_si, LY_sj]; exact L0) (by decide)) (LY.k1262 (by simp only [LY_si, LY_sj]; exact L0)) (by decide) rfl (hi_hsi_nk (by decide))) ?_
    cases hf
    exact XR.reti rfl rfl (fun hret => ⟨_, hret, ⟨rfl, rfl⟩, (by simp only [LY_si, LY_sj]; exact L0)⟩)
  rw [if_neg qs1_4] at hf
  by_cases qs1_5 : a0 = 5
  · rw [if_pos qs1_5] at hf
    refine XS.go (s_tswI (tgt := 81) rfl (by rw [qs1_5]; decide) (by rw [qs1_5]; decide) (by rw [qs1_5]; rfl) rfl) ?_
    refine XS.go (s_aloadn rfl rfl rfl) ?_
    refine XS.go (s_getie rfl xf12_441 (LY.lt (by simp only [LY_si, LY_sj]; exact L0) (by decide)) (LY.k1262 (by simp only [LY_si, LY_sj]; exact L0)) (by decide) rfl (hi_hsi_nk (by decide))) ?_
    cases hf
    exact XR.reti rfl rfl (fun hret => ⟨_, hret, ⟨rfl, rfl⟩, (by simp only [LY_si, LY_sj]; exact L0)⟩)
  rw [if_neg qs1_5] at hf
  by_cases qs1_6 : a0 = 6
  · rw [if_pos qs1_6] at hf
    refine XS.go (s_tswI (tgt := 86) rfl (by rw [qs1_6]; decide) (by rw [qs1_6]; decide) (by rw [qs1_6]; rfl) rfl) ?_
    refine XS.go (s_aloadn rfl rfl rfl) ?_
    refine XS.go (s_getze rfl xf12_360 (LY.lt (by simp only [LY_si, LY_sj]; exact L0) (by decide)) (LY.k1262 (by simp only [LY_si, LY_sj]; exact L0)) (by decide) rfl (hi_hsi_nk (by decide))) ?_
    refine r_if_eq (tgt := 100) rfl rfl (fun qc2 => ?_) (fun qc2 => ?_)
    · rw [if_pos qc2] at hf
      refine XS.go (s_iconst (v := 0) rfl rfl) ?_
      cases hf
      exact XR.reti rfl rfl (fun hret => ⟨_, hret, ⟨rfl, rfl⟩, (by simp only [LY_si, LY_sj]; exact L0)⟩)
    · rw [if_neg qc2] at hf
      refine XS.go (s_aloadn rfl rfl rfl) ?_
      refine XS.go (s_getie rfl xf12_444 (LY.lt (by simp only [LY_si, LY_sj]; exact L0) (by decide)) (LY.k1262 (by simp only [LY_si, LY_sj]; exact L0)) (by decide) rfl (hi_hsi_nk (by decide))) ?_
      refine XS.go (s_goto (tgt := 101) rfl rfl) ?_
      cases hf
      exact XR.reti rfl rfl (fun hret => ⟨_, hret, ⟨rfl, rfl⟩, (by simp only [LY_si, LY_sj]; exact L0)⟩)
  rw [if_neg qs1_6] at hf
  by_cases qs1_7 : a0 = 7
  · rw [if_pos qs1_7] at hf
    refine XS.go (s_tswI (tgt := 102) rfl (by rw [qs1_7]; decide) (by rw [qs1_7]; decide) (by rw [qs1_7]; rfl) rfl) ?_
    refine XS.go (s_aloadn rfl rfl rfl) ?_
    refine XS.go (s_getie rfl xf12_391 (LY.lt (by simp only [LY_si, LY_sj]; exact L0) (by decide)) (LY.k1262 (by simp only [LY_si, LY_sj]; exact L0)) (by decide) rfl (hi_hsi_nk (by decide))) ?_
    cases hf
    exact XR.reti rfl rfl (fun hret => ⟨_, hret, ⟨rfl, rfl⟩, (by simp only [LY_si, LY_sj]; exact L0)⟩)
  rw [if_neg qs1_7] at hf
  by_cases qs1_8 : a0 = 8
  · rw [if_pos qs1_8] at hf
    refine XS.go (s_tswI (tgt := 107) rfl (by rw [qs1_8]; decide) (by rw [qs1_8]; decide) (by rw [qs1_8]; rfl) rfl) ?_
    refine XS.go (s_aloadn rfl rfl rfl) ?_
    refine XS.go (s_getie rfl xf12_447 (LY.lt (by simp only [LY_si, LY_sj]; exact L0) (by decide)) (LY.k1262 (by simp only [LY_si, LY_sj]; exact L0)) (by decide) rfl (hi_hsi_nk (by decide))) ?_
    cases hf
    exact XR.reti rfl rfl (fun hret => ⟨_, hret, ⟨rfl, rfl⟩, (by simp only [LY_si, LY_sj]; exact L0)⟩)
  rw [if_neg qs1_8] at hf
  have qs1_o : (a0).toInt < 0 ∨ 8 < (a0).toInt := by
    refine tsw_out 0 8 (by decide) ?_
    intro k h1 h2
    have z : k = 0 ∨ k = 1 ∨ k = 2 ∨ k = 3 ∨ k = 4 ∨ k = 5 ∨ k = 6 ∨ k = 7 ∨ k = 8 := by omega
    rcases z with rfl | rfl | rfl | rfl | rfl | rfl | rfl | rfl | rfl
    · exact qs1_0
    · exact qs1_1
    · exact qs1_2
    · exact qs1_3
    · exact qs1_4
    · exact qs1_5
    · exact qs1_6
    · exact qs1_7
    · exact qs1_8
  refine XS.go (s_tswO (tgt := 112) rfl qs1_o rfl) ?_
  refine XS.go (s_iconst (v := (-1)) rfl rfl) ?_
  cases hf
  exact XR.reti rfl rfl (fun hret => ⟨_, hret, ⟨rfl, rfl⟩, (by simp only [LY_si, LY_sj]; exact L0)⟩)
def f_m_wrong (a0 : Int32) (a1 : Int32) (h : XH) : Option (Unit × XH) := (if ¬ (hi h 1262 76) = 0 then (some ((), h)) else (some ((), (hsi (hsi h 1262 76 a0) 1262 77 a1))))
set_option maxRecDepth 20000 in
theorem kf_m_wrong {l : Launch} {G : XG} {d : Nat} {a0 : Int32} {a1 : Int32} {h : XH} {r : Unit × XH} (L0 : LY h) (hf : f_m_wrong a0 a1 h = some r) : XC l G xEX12_wrong d [.ref 1262, .int a0, .int a1] h (fun v h2 => (h2 = r.2 ∧ v = none) ∧ LY r.2) := by
  refine XC.virt xvX12_wrong (Nat.le_of_ble_eq_true rfl) ?_
  unfold f_m_wrong at hf
  refine XS.go (s_aloadn rfl rfl rfl) ?_
  refine XS.go (s_getie rfl xf12_450 (LY.lt L0 (by decide)) (LY.k1262 L0) (by decide) rfl rfl) ?_
  refine r_if_ne (tgt := 17) rfl rfl (fun qc1 => ?_) (fun qc1 => ?_)
  · rw [if_pos qc1] at hf
    cases hf
    exact XR.retv rfl rfl (fun hret => ⟨_, hret, ⟨rfl, rfl⟩, L0⟩)
  · rw [if_neg qc1] at hf
    refine XS.go (s_aloadn rfl rfl rfl) ?_
    refine XS.go (s_iloadn rfl rfl rfl) ?_
    refine XS.go (s_puti rfl xf12_450 (LY.lt L0 (by decide)) (LY.k1262 L0) (by decide) rfl (Or.inl rfl)) ?_
    refine XS.go (s_aloadn rfl rfl rfl) ?_
    refine XS.go (s_iloadn rfl rfl rfl) ?_
    refine XS.go (s_puti rfl xf12_453 (LY.lt (by simp only [LY_si, LY_sj]; exact L0) (by decide)) (LY.k1262 (by simp only [LY_si, LY_sj]; exact L0)) (by decide) rfl (Or.inl rfl)) ?_
    cases hf
    exact XR.retv rfl rfl (fun hret => ⟨_, hret, ⟨rfl, rfl⟩, (by simp only [LY_si, LY_sj]; exact L0)⟩)
def b_m_number_7 : Nat → Int32 → Int64 → Int32 → XH → Option (Int64 × XH)
  | 0, _, _, _, _ => none
  | n + 1, x1, x3, x5, h => (if x5 < 0 then (some (x3, h)) else (if 0 ≤ (x1 + x5) ∧ (x1 + x5) < nI 4000 then (b_m_number_7 n x1 ((x3 <<< ((8).toInt64 &&& 63)) ||| (Int32.toInt64 (hi h 1310 (Int32.toNatClampNeg (x1 + x5))))) (x5 + (-1)) h) else none))
set_option maxRecDepth 20000 in
theorem kb_m_number_7 {l : Launch} {G : XG} {d : Nat} {n : Nat} {x1 : Int32} {x3 : Int64} {x5 : Int32} {h : XH} {r : Int64 × XH} (L0 : LY h) (hf : b_m_number_7 n x1 x3 x5 h = some r) : XR l G xEX12_number d (7, [some (.ref 1262), some (.int x1), none, some (.long x3), none, some (.int x5)], [], h) (fun C => ∃ v, xRet xEX12_number C v ∧ (C.2.2.2 = r.2 ∧ v = some (.long r.1)) ∧ LY r.2) := by
  induction n generalizing x1 x3 x5 h with
  | zero => cases hf
  | succ n ih =>
    replace ih : ∀ (x1 : Int32) (x3 : Int64) (x5 : Int32) (h : XH), LY h → b_m_number_7 n x1 x3 x5 h = some r → XR l G xEX12_number d (7, [some (.ref 1262), some (.int x1), none, some (.long x3), none, some (.int x5)], [], h) (fun C => ∃ v, xRet xEX12_number C v ∧ (C.2.2.2 = r.2 ∧ v = some (.long r.1)) ∧ LY r.2) := fun x1 x3 x5 h L0 hf => ih (h := h) (x1 := x1) (x3 := x3) (x5 := x5) L0 hf
    rw [b_m_number_7] at hf
    refine XS.go (s_iload rfl rfl) ?_
    refine r_if_lt (tgt := 34) rfl rfl (fun qc1 => ?_) (fun qc1 => ?_)
    · rw [if_pos qc1] at hf
      refine XS.go (s_lloadn rfl rfl rfl) ?_
      cases hf
      exact XR.retl rfl rfl (fun hret => ⟨_, hret, ⟨rfl, rfl⟩, L0⟩)
    · rw [if_neg qc1] at hf
      refine XS.go (s_lloadn rfl rfl rfl) ?_
      refine XS.go (s_bipush (v := 8) rfl rfl) ?_
      refine XS.go (s_lshl rfl) ?_
      refine XS.go (s_aloadn rfl rfl rfl) ?_
      refine XS.go (s_getr rfl xf12_157 (LY.lt L0 (by decide)) (LY.k1262 L0) (by decide) rfl (LY.r1262_74 L0)) ?_
      refine XS.go (s_iloadn rfl rfl rfl) ?_
      refine XS.go (s_iload rfl rfl) ?_
      refine XS.go (s_iadd rfl) ?_
      by_cases qk2 : 0 ≤ (x1 + x5) ∧ (x1 + x5) < nI 4000
      rotate_left
      · rw [if_neg qk2] at hf; cases hf
      rw [if_pos qk2] at hf
      refine XS.go (s_ialde rfl (LY.lt L0 (by decide)) (LY.k1310 L0) (inLit (LY.n1310 L0) qk2.1 qk2.2 (by decide)) rfl) ?_
      refine XS.go (s_i2l rfl) ?_
      refine XS.go (s_lor rfl) ?_
      refine XS.go (s_lstoren rfl rfl (Nat.le_of_ble_eq_true rfl)) ?_
      refine XS.go (s_dec rfl rfl (Nat.le_of_ble_eq_true rfl)) ?_
      refine XS.go (s_goto (tgt := 7) rfl rfl) ?_
      exact XR.forget (L2 := [some (.ref 1262), some (.int x1), none, some (.long ((x3 <<< ((8).toInt64 &&& 63)) ||| (Int32.toInt64 (hi h 1310 (Int32.toNatClampNeg (x1 + x5)))))), none, some (.int (x5 + (-1)))]) ⟨rfl, ⟨rfl, ⟨rfl, ⟨rfl, trivial⟩⟩⟩⟩ (ih x1 ((x3 <<< ((8).toInt64 &&& 63)) ||| (Int32.toInt64 (hi h 1310 (Int32.toNatClampNeg (x1 + x5))))) (x5 + (-1)) _ L0 hf)
def f_m_number (a0 : Int32) (a1 : Int32) (h : XH) : Option (Int64 × XH) := (b_m_number_7 100000 a0 0 (a1 - 1) h)
set_option maxRecDepth 20000 in
theorem kf_m_number {l : Launch} {G : XG} {d : Nat} {a0 : Int32} {a1 : Int32} {h : XH} {r : Int64 × XH} (L0 : LY h) (hf : f_m_number a0 a1 h = some r) : XC l G xEX12_number d [.ref 1262, .int a0, .int a1] h (fun v h2 => (h2 = r.2 ∧ v = some (.long r.1)) ∧ LY r.2) := by
  refine XC.virt xvX12_number (Nat.le_of_ble_eq_true rfl) ?_
  unfold f_m_number at hf
  refine XS.go (s_lconst (v := 0) rfl rfl) ?_
  refine XS.go (s_lstoren rfl rfl (Nat.le_of_ble_eq_true rfl)) ?_
  refine XS.go (s_iloadn rfl rfl rfl) ?_
  refine XS.go (s_iconst (v := 1) rfl rfl) ?_
  refine XS.go (s_isub rfl) ?_
  refine XS.go (s_istore rfl (Nat.le_of_ble_eq_true rfl)) ?_
  exact XR.forget (L2 := [some (.ref 1262), some (.int a0), none, some (.long 0), none, some (.int (a1 - 1))]) ⟨rfl, ⟨rfl, ⟨rfl, ⟨rfl, trivial⟩⟩⟩⟩ (kb_m_number_7 L0 hf)
def f_m_far (a0 : Int32) (a1 : Int32) (h : XH) : Option (Int32 × XH) := (match f_m_number a0 2 h with | none => none | some r1 => (if (6 + (2 * a1)) ≤ (Int64.toInt32 r1.1) then (match f_m_number ((a0 + 4) + (2 * a1)) 2 r1.2 with | none => none | some r5 => (some ((Int64.toInt32 r5.1), r5.2))) else (some (0, r1.2))))
set_option maxRecDepth 20000 in
theorem kf_m_far {l : Launch} {G : XG} {d : Nat} {a0 : Int32} {a1 : Int32} {h : XH} {r : Int32 × XH} (L0 : LY h) (hf : f_m_far a0 a1 h = some r) : XC l G xEX12_far (d + 1) [.ref 1262, .int a0, .int a1] h (fun v h2 => (h2 = r.2 ∧ v = some (.int r.1)) ∧ LY r.2) := by
  refine XC.virt xvX12_far (Nat.le_of_ble_eq_true rfl) ?_
  unfold f_m_far at hf
  refine XS.go (s_bipush (v := 6) rfl rfl) ?_
  refine XS.go (s_iconst (v := 2) rfl rfl) ?_
  refine XS.go (s_iloadn rfl rfl rfl) ?_
  refine XS.go (s_imul rfl) ?_
  refine XS.go (s_iadd rfl) ?_
  refine XS.go (s_aloadn rfl rfl rfl) ?_
  refine XS.go (s_iloadn rfl rfl rfl) ?_
  refine XS.go (s_iconst (v := 2) rfl rfl) ?_
  rcases e2 : f_m_number a0 2 h with _ | r1
  · rw [e2] at hf; cases hf
  rw [e2] at hf; dsimp only at hf
  refine r_callv rfl xvX12_number xm12_467 (kf_m_number (d := d) L0 e2) (LY.lt L0 (by decide)) (LY.k1262 L0) (by decide) rfl rfl (by omega) (by decide) (Nat.le_of_ble_eq_true rfl) ?_
  rintro _ _ ⟨⟨rfl, rfl⟩, L3⟩
  refine XS.go (s_l2i rfl) ?_
  refine r_icmp_le (tgt := 20) rfl rfl (fun qc4 => ?_) (fun qc4 => ?_)
  · rw [if_pos qc4] at hf
    refine XS.go (s_aloadn rfl rfl rfl) ?_
    refine XS.go (s_iloadn rfl rfl rfl) ?_
    refine XS.go (s_iconst (v := 4) rfl rfl) ?_
    refine XS.go (s_iadd rfl) ?_
    refine XS.go (s_iconst (v := 2) rfl rfl) ?_
    refine XS.go (s_iloadn rfl rfl rfl) ?_
    refine XS.go (s_imul rfl) ?_
    refine XS.go (s_iadd rfl) ?_
    refine XS.go (s_iconst (v := 2) rfl rfl) ?_
    rcases e6 : f_m_number ((a0 + 4) + (2 * a1)) 2 r1.2 with _ | r5
    · rw [e6] at hf; cases hf
    rw [e6] at hf; dsimp only at hf
    refine r_callv rfl xvX12_number xm12_467 (kf_m_number (d := d) L3 e6) (LY.lt L3 (by decide)) (LY.k1262 L3) (by decide) rfl rfl (by omega) (by decide) (Nat.le_of_ble_eq_true rfl) ?_
    rintro _ _ ⟨⟨rfl, rfl⟩, L7⟩
    refine XS.go (s_l2i rfl) ?_
    cases hf
    exact XR.reti rfl rfl (fun hret => ⟨_, hret, ⟨rfl, rfl⟩, L7⟩)
  · rw [if_neg qc4] at hf
    refine XS.go (s_iconst (v := 0) rfl rfl) ?_
    refine XS.go (s_goto (tgt := 33) rfl rfl) ?_
    cases hf
    exact XR.reti rfl rfl (fun hret => ⟨_, hret, ⟨rfl, rfl⟩, L3⟩)
def b_m_judgeValue_98 (K19 : Int32 → Int32 → Int32 → Int32 → Int32 → XH → Option (Unit × XH)) (x1 : Int32) (x2 : Int32) (x3 : Int32) (x4 : Int32) (x5 : Int32) (h : XH) : Option (Unit × XH) := (K19 x1 x2 x3 x4 (x5 + 1) h)
set_option maxRecDepth 20000 in
theorem kb_m_judgeValue_98 {l : Launch} {G : XG} {d : Nat} {K19 : Int32 → Int32 → Int32 → Int32 → Int32 → XH → Option (Unit × XH)} {x1 : Int32} {x2 : Int32} {x3 : Int32} {x4 : Int32} {x5 : Int32} {h : XH} {r : Unit × XH} (hK19 : ∀ (x1 : Int32) (x2 : Int32) (x3 : Int32) (x4 : Int32) (x5 : Int32) (h : XH), LY h → K19 x1 x2 x3 x4 x5 h = some r → XR l G xEX12_judgeValue (d + 1) (19, [some (.ref 1262), some (.int x1), some (.int x2), some (.int x3), some (.int x4), some (.int x5), none, none], [], h) (fun C => ∃ v, xRet xEX12_judgeValue C v ∧ (C.2.2.2 = r.2 ∧ v = none) ∧ LY r.2)) (L0 : LY h) (hf : b_m_judgeValue_98 K19 x1 x2 x3 x4 x5 h = some r) : XR l G xEX12_judgeValue (d + 1) (98, [some (.ref 1262), some (.int x1), some (.int x2), some (.int x3), some (.int x4), some (.int x5), none, none], [], h) (fun C => ∃ v, xRet xEX12_judgeValue C v ∧ (C.2.2.2 = r.2 ∧ v = none) ∧ LY r.2) := by
  unfold b_m_judgeValue_98 at hf
  refine XS.go (s_inc rfl rfl (Nat.le_of_ble_eq_true rfl)) ?_
  refine XS.go (s_goto (tgt := 19) rfl rfl) ?_
  exact XR.forget (L2 := [some (.ref 1262), some (.int x1), some (.int x2), some (.int x3), some (.int x4), some (.int (x5 + 1)), none, none]) ⟨rfl, ⟨rfl, ⟨rfl, ⟨rfl, ⟨rfl, ⟨rfl, trivial⟩⟩⟩⟩⟩⟩ (hK19 x1 x2 x3 x4 (x5 + 1) _ L0 hf)
def b_m_judgeValue_71 (K19 : Int32 → Int32 → Int32 → Int32 → Int32 → XH → Option (Unit × XH)) (x1 : Int32) (x2 : Int32) (x3 : Int32) (x4 : Int32) (x5 : Int32) (x6 : Int32) (y0 : Int32) (y1 : Int32) (h : XH) : Option (Unit × XH) := (if ¬ x6 = 0 then (b_m_judgeValue_98 K19 x1 x2 x3 x4 x5 h) else (if 0 ≤ (y0 + y1) ∧ (y0 + y1) < nI 4000 then (if (hi h 1310 (Int32.toNatClampNeg (y0 + y1))) ≤ 1 then (b_m_judgeValue_98 K19 x1 x2 x3 x4 x5 h) else (match f_m_wrong 11 (y0 + y1) h with | none => none | some r4 => (b_m_judgeValue_98 K19 x1 x2 x3 x4 x5 r4.2))) else none))
set_option maxRecDepth 20000 in
theorem kb_m_judgeValue_71 {l : Launch} {G : XG} {d : Nat} {K19 : Int32 → Int32 → Int32 → Int32 → Int32 → XH → Option (Unit × XH)} {x1 : Int32} {x2 : Int32} {x3 : Int32} {x4 : Int32} {x5 : Int32} {x6 : Int32} {y0 : Int32} {y1 : Int32} {h : XH} {r : Unit × XH} (hK19 : ∀ (x1 : Int32) (x2 : Int32) (x3 : Int32) (x4 : Int32) (x5 : Int32) (h : XH), LY h → K19 x1 x2 x3 x4 x5 h = some r → XR l G xEX12_judgeValue (d + 1) (19, [some (.ref 1262), some (.int x1), some (.int x2), some (.int x3), some (.int x4), some (.int x5), none, none], [], h) (fun C => ∃ v, xRet xEX12_judgeValue C v ∧ (C.2.2.2 = r.2 ∧ v = none) ∧ LY r.2)) (L0 : LY h) (hf : b_m_judgeValue_71 K19 x1 x2 x3 x4 x5 x6 y0 y1 h = some r) : XR l G xEX12_judgeValue (d + 1) (71, [some (.ref 1262), some (.int x1), some (.int x2), some (.int x3), some (.int x4), some (.int x5), some (.int x6), none], [(.int y1), (.int y0)], h) (fun C => ∃ v, xRet xEX12_judgeValue C v ∧ (C.2.2.2 = r.2 ∧ v = none) ∧ LY r.2) := by
  unfold b_m_judgeValue_71 at hf
  refine XS.go (s_iadd rfl) ?_
  refine XS.go (s_istore rfl (Nat.le_of_ble_eq_true rfl)) ?_
  refine XS.go (s_iload rfl rfl) ?_
  refine r_if_ne (tgt := 98) rfl rfl (fun qc1 => ?_) (fun qc1 => ?_)
  · rw [if_pos qc1] at hf
    exact XR.forget (L2 := [some (.ref 1262), some (.int x1), some (.int x2), some (.int x3), some (.int x4), some (.int x5), none, none]) ⟨rfl, ⟨rfl, ⟨rfl, ⟨rfl, ⟨rfl, ⟨rfl, trivial⟩⟩⟩⟩⟩⟩ (kb_m_judgeValue_98 hK19 L0 hf)
  · rw [if_neg qc1] at hf
    refine XS.go (s_aloadn rfl rfl rfl) ?_
    refine XS.go (s_getr rfl xf12_157 (LY.lt L0 (by decide)) (LY.k1262 L0) (by decide) rfl (LY.r1262_74 L0)) ?_
    refine XS.go (s_iload rfl rfl) ?_
    by_cases qk2 : 0 ≤ (y0 + y1) ∧ (y0 + y1) < nI 4000
    rotate_left
    · rw [if_neg qk2] at hf; cases hf
    rw [if_pos qk2] at hf
    refine XS.go (s_ialde rfl (LY.lt L0 (by decide)) (LY.k1310 L0) (inLit (LY.n1310 L0) qk2.1 qk2.2 (by decide)) rfl) ?_
    refine XS.go (s_iconst (v := 1) rfl rfl) ?_
    refine r_icmp_le (tgt := 98) rfl rfl (fun qc3 => ?_) (fun qc3 => ?_)
    · rw [if_pos qc3] at hf
      exact XR.forget (L2 := [some (.ref 1262), some (.int x1), some (.int x2), some (.int x3), some (.int x4), some (.int x5), none, none]) ⟨rfl, ⟨rfl, ⟨rfl, ⟨rfl, ⟨rfl, ⟨rfl, trivial⟩⟩⟩⟩⟩⟩ (kb_m_judgeValue_98 hK19 L0 hf)
    · rw [if_neg qc3] at hf
      refine XS.go (s_aloadn rfl rfl rfl) ?_
      refine XS.go (s_bipush (v := 11) rfl rfl) ?_
      refine XS.go (s_iload rfl rfl) ?_
      rcases e5 : f_m_wrong 11 (y0 + y1) h with _ | r4
      · rw [e5] at hf; cases hf
      rw [e5] at hf; dsimp only at hf
      refine r_callv rfl xvX12_wrong xm12_462 (kf_m_wrong (d := d) L0 e5) (LY.lt L0 (by decide)) (LY.k1262 L0) (by decide) rfl rfl (by omega) (by decide) (Nat.le_of_ble_eq_true rfl) ?_
      rintro _ _ ⟨⟨rfl, rfl⟩, L6⟩
      exact XR.forget (L2 := [some (.ref 1262), some (.int x1), some (.int x2), some (.int x3), some (.int x4), some (.int x5), none, none]) ⟨rfl, ⟨rfl, ⟨rfl, ⟨rfl, ⟨rfl, ⟨rfl, trivial⟩⟩⟩⟩⟩⟩ (kb_m_judgeValue_98 hK19 L6 hf)
def b_m_judgeValue_47 (K19 : Int32 → Int32 → Int32 → Int32 → Int32 → XH → Option (Unit × XH)) (x1 : Int32) (x2 : Int32) (x3 : Int32) (x4 : Int32) (x5 : Int32) (y0 : Int32) (h : XH) : Option (Unit × XH) := (if ¬ x2 = 0 then (if 0 ≤ ((128 * x3) + x5) ∧ ((128 * x3) + x5) < nI 1536 then (b_m_judgeValue_71 K19 x1 x2 x3 x4 x5 y0 x1 (hi h 1282 (Int32.toNatClampNeg ((128 * x3) + x5))) h) else none) else (b_m_judgeValue_71 K19 x1 x2 x3 x4 x5 y0 x1 0 h))
set_option maxRecDepth 20000 in
theorem kb_m_judgeValue_47 {l : Launch} {G : XG} {d : Nat} {K19 : Int32 → Int32 → Int32 → Int32 → Int32 → XH → Option (Unit × XH)} {x1 : Int32} {x2 : Int32} {x3 : Int32} {x4 : Int32} {x5 : Int32} {y0 : Int32} {h : XH} {r : Unit × XH} (hK19 : ∀ (x1 : Int32) (x2 : Int32) (x3 : Int32) (x4 : Int32) (x5 : Int32) (h : XH), LY h → K19 x1 x2 x3 x4 x5 h = some r → XR l G xEX12_judgeValue (d + 1) (19, [some (.ref 1262), some (.int x1), some (.int x2), some (.int x3), some (.int x4), some (.int x5), none, none], [], h) (fun C => ∃ v, xRet xEX12_judgeValue C v ∧ (C.2.2.2 = r.2 ∧ v = none) ∧ LY r.2)) (L0 : LY h) (hf : b_m_judgeValue_47 K19 x1 x2 x3 x4 x5 y0 h = some r) : XR l G xEX12_judgeValue (d + 1) (47, [some (.ref 1262), some (.int x1), some (.int x2), some (.int x3), some (.int x4), some (.int x5), none, none], [(.int y0)], h) (fun C => ∃ v, xRet xEX12_judgeValue C v ∧ (C.2.2.2 = r.2 ∧ v = none) ∧ LY r.2) := by
  unfold b_m_judgeValue_47 at hf
  refine XS.go (s_istore rfl (Nat.le_of_ble_eq_true rfl)) ?_
  refine XS.go (s_iloadn rfl rfl rfl) ?_
  refine XS.go (s_iloadn rfl rfl rfl) ?_
  refine r_if_ne (tgt := 58) rfl rfl (fun qc7 => ?_) (fun qc7 => ?_)
  · rw [if_pos qc7] at hf
    refine XS.go (s_aloadn rfl rfl rfl) ?_
    refine XS.go (s_getr rfl xf12_67 (LY.lt L0 (by decide)) (LY.k1262 L0) (by decide) rfl (LY.r1262_30 L0)) ?_
    refine XS.go (s_sipush (v := 128) rfl rfl) ?_
    refine XS.go (s_iloadn rfl rfl rfl) ?_
    refine XS.go (s_imul rfl) ?_
    refine XS.go (s_iload rfl rfl) ?_
    refine XS.go (s_iadd rfl) ?_
    by_cases qk8 : 0 ≤ ((128 * x3) + x5) ∧ ((128 * x3) + x5) < nI 1536
    rotate_left
    · rw [if_neg qk8] at hf; cases hf
    rw [if_pos qk8] at hf
    refine XS.go (s_ialde rfl (LY.lt L0 (by decide)) (LY.k1282 L0) (inLit (LY.n1282 L0) qk8.1 qk8.2 (by decide)) rfl) ?_
    exact XR.forget (L2 := [some (.ref 1262), some (.int x1), some (.int x2), some (.int x3), some (.int x4), some (.int x5), some (.int y0), none]) ⟨rfl, ⟨rfl, ⟨rfl, ⟨rfl, ⟨rfl, ⟨rfl, ⟨rfl, trivial⟩⟩⟩⟩⟩⟩⟩ (kb_m_judgeValue_71 hK19 L0 hf)
  · rw [if_neg qc7] at hf
    refine XS.go (s_iconst (v := 0) rfl rfl) ?_
    refine XS.go (s_goto (tgt := 71) rfl rfl) ?_
    exact XR.forget (L2 := [some (.ref 1262), some (.int x1), some (.int x2), some (.int x3), some (.int x4), some (.int x5), some (.int y0), none]) ⟨rfl, ⟨rfl, ⟨rfl, ⟨rfl, ⟨rfl, ⟨rfl, ⟨rfl, trivial⟩⟩⟩⟩⟩⟩⟩ (kb_m_judgeValue_71 hK19 L0 hf)
def b_m_judgeValue_19 : Nat → Int32 → Int32 → Int32 → Int32 → Int32 → XH → Option (Unit × XH)
  | 0, _, _, _, _, _, _ => none
  | n + 1, x1, x2, x3, x4, x5, h => (if x4 ≤ x5 then (some ((), h)) else (if ¬ x2 = 0 then (if 0 ≤ ((128 * x3) + x5) ∧ ((128 * x3) + x5) < nI 1536 then (b_m_judgeValue_47 (b_m_judgeValue_19 n) x1 x2 x3 x4 x5 (hi h 1281 (Int32.toNatClampNeg ((128 * x3) + x5))) h) else none) else (b_m_judgeValue_47 (b_m_judgeValue_19 n) x1 x2 x3 x4 x5 x3 h)))
set_option maxRecDepth 20000 in
theorem kb_m_judgeValue_19 {l : Launch} {G : XG} {d : Nat} {n : Nat} {x1 : Int32} {x2 : Int32} {x3 : Int32} {x4 : Int32} {x5 : Int32} {h : XH} {r : Unit × XH} (L0 : LY h) (hf : b_m_judgeValue_19 n x1 x2 x3 x4 x5 h = some r) : XR l G xEX12_judgeValue (d + 1) (19, [some (.ref 1262), some (.int x1), some (.int x2), some (.int x3), some (.int x4), some (.int x5), none, none], [], h) (fun C => ∃ v, xRet xEX12_judgeValue C v ∧ (C.2.2.2 = r.2 ∧ v = none) ∧ LY r.2) := by
  induction n generalizing x1 x2 x3 x4 x5 h with
  | zero => cases hf
  | succ n ih =>
    replace ih : ∀ (x1 : Int32) (x2 : Int32) (x3 : Int32) (x4 : Int32) (x5 : Int32) (h : XH), LY h → b_m_judgeValue_19 n x1 x2 x3 x4 x5 h = some r → XR l G xEX12_judgeValue (d + 1) (19, [some (.ref 1262), some (.int x1), some (.int x2), some (.int x3), some (.int x4), some (.int x5), none, none], [], h) (fun C => ∃ v, xRet xEX12_judgeValue C v ∧ (C.2.2.2 = r.2 ∧ v = none) ∧ LY r.2) := fun x1 x2 x3 x4 x5 h L0 hf => ih (h := h) (x1 := x1) (x2 := x2) (x3 := x3) (x4 := x4) (x5 := x5) L0 hf
    rw [b_m_judgeValue_19] at hf
    refine XS.go (s_iload rfl rfl) ?_
    refine XS.go (s_iload rfl rfl) ?_
    refine r_icmp_ge (tgt := 104) rfl rfl (fun qc9 => ?_) (fun qc9 => ?_)
    · rw [if_pos qc9] at hf
      cases hf
      exact XR.retv rfl rfl (fun hret => ⟨_, hret, ⟨rfl, rfl⟩, L0⟩)
    · rw [if_neg qc9] at hf
      refine XS.go (s_iloadn rfl rfl rfl) ?_
      refine r_if_ne (tgt := 34) rfl rfl (fun qc10 => ?_) (fun qc10 => ?_)
      · rw [if_pos qc10] at hf
        refine XS.go (s_aloadn rfl rfl rfl) ?_
        refine XS.go (s_getr rfl xf12_64 (LY.lt L0 (by decide)) (LY.k1262 L0) (by decide) rfl (LY.r1262_29 L0)) ?_
        refine XS.go (s_sipush (v := 128) rfl rfl) ?_
        refine XS.go (s_iloadn rfl rfl rfl) ?_
        refine XS.go (s_imul rfl) ?_
        refine XS.go (s_iload rfl rfl) ?_
        refine XS.go (s_iadd rfl) ?_
        by_cases qk11 : 0 ≤ ((128 * x3) + x5) ∧ ((128 * x3) + x5) < nI 1536
        rotate_left
        · rw [if_neg qk11] at hf; cases hf
        rw [if_pos qk11] at hf
        refine XS.go (s_ialde rfl (LY.lt L0 (by decide)) (LY.k1281 L0) (inLit (LY.n1281 L0) qk11.1 qk11.2 (by decide)) rfl) ?_
        exact XR.forget (L2 := [some (.ref 1262), some (.int x1), some (.int x2), some (.int x3), some (.int x4), some (.int x5), none, none]) ⟨rfl, ⟨rfl, ⟨rfl, ⟨rfl, ⟨rfl, ⟨rfl, trivial⟩⟩⟩⟩⟩⟩ (kb_m_judgeValue_47 ih L0 hf)
      · rw [if_neg qc10] at hf
        refine XS.go (s_iloadn rfl rfl rfl) ?_
        refine XS.go (s_goto (tgt := 47) rfl rfl) ?_
        exact XR.forget (L2 := [some (.ref 1262), some (.int x1), some (.int x2), some (.int x3), some (.int x4), some (.int x5), none, none]) ⟨rfl, ⟨rfl, ⟨rfl, ⟨rfl, ⟨rfl, ⟨rfl, trivial⟩⟩⟩⟩⟩⟩ (kb_m_judgeValue_47 ih L0 hf)
def b_m_judgeValue_14 (x1 : Int32) (x2 : Int32) (x3 : Int32) (y0 : Int32) (h : XH) : Option (Unit × XH) := (b_m_judgeValue_19 100000 x1 x2 x3 y0 0 h)
set_option maxRecDepth 20000 in
theorem kb_m_judgeValue_14 {l : Launch} {G : XG} {d : Nat} {x1 : Int32} {x2 : Int32} {x3 : Int32} {y0 : Int32} {h : XH} {r : Unit × XH} (L0 : LY h) (hf : b_m_judgeValue_14 x1 x2 x3 y0 h = some r) : XR l G xEX12_judgeValue (d + 1) (14, [some (.ref 1262), some (.int x1), some (.int x2), some (.int x3), none, none, none, none], [(.int y0)], h) (fun C => ∃ v, xRet xEX12_judgeValue C v ∧ (C.2.2.2 = r.2 ∧ v = none) ∧ LY r.2) := by
  unfold b_m_judgeValue_14 at hf
  refine XS.go (s_istore rfl (Nat.le_of_ble_eq_true rfl)) ?_
  refine XS.go (s_iconst (v := 0) rfl rfl) ?_
  refine XS.go (s_istore rfl (Nat.le_of_ble_eq_true rfl)) ?_
  exact XR.forget (L2 := [some (.ref 1262), some (.int x1), some (.int x2), some (.int x3), some (.int y0), some (.int 0), none, none]) ⟨rfl, ⟨rfl, ⟨rfl, ⟨rfl, ⟨rfl, ⟨rfl, trivial⟩⟩⟩⟩⟩⟩ (kb_m_judgeValue_19 L0 hf)
def f_m_judgeValue (a0 : Int32) (a1 : Int32) (a2 : Int32) (h : XH) : Option (Unit × XH) := (if ¬ a1 = 0 then (if 0 ≤ a2 ∧ a2 < nI 12 then (b_m_judgeValue_14 a0 a1 a2 (hi h 1280 (Int32.toNatClampNeg a2)) h) else none) else (b_m_judgeValue_14 a0 a1 a2 1 h))
set_option maxRecDepth 20000 in
theorem kf_m_judgeValue {l : Launch} {G : XG} {d : Nat} {a0 : Int32} {a1 : Int32} {a2 : Int32} {h : XH} {r : Unit × XH} (L0 : LY h) (hf : f_m_judgeValue a0 a1 a2 h = some r) : XC l G xEX12_judgeValue (d + 1) [.ref 1262, .int a0, .int a1, .int a2] h (fun v h2 => (h2 = r.2 ∧ v = none) ∧ LY r.2) := by
  refine XC.virt xvX12_judgeValue (Nat.le_of_ble_eq_true rfl) ?_
  unfold f_m_judgeValue at hf
  refine XS.go (s_iloadn rfl rfl rfl) ?_
  refine r_if_ne (tgt := 8) rfl rfl (fun qc12 => ?_) (fun qc12 => ?_)
  · rw [if_pos qc12] at hf
    refine XS.go (s_aloadn rfl rfl rfl) ?_
    refine XS.go (s_getr rfl xf12_61 (LY.lt L0 (by decide)) (LY.k1262 L0) (by decide) rfl (LY.r1262_28 L0)) ?_
    refine XS.go (s_iloadn rfl rfl rfl) ?_
    by_cases qk13 : 0 ≤ a2 ∧ a2 < nI 12
    rotate_left
    · rw [if_neg qk13] at hf; cases hf
    rw [if_pos qk13] at hf
    refine XS.go (s_ialde rfl (LY.lt L0 (by decide)) (LY.k1280 L0) (inLit (LY.n1280 L0) qk13.1 qk13.2 (by decide)) rfl) ?_
    exact XR.forget (L2 := [some (.ref 1262), some (.int a0), some (.int a1), some (.int a2), none, none, none, none]) ⟨rfl, ⟨rfl, ⟨rfl, ⟨rfl, trivial⟩⟩⟩⟩ (kb_m_judgeValue_14 L0 hf)
  · rw [if_neg qc12] at hf
    refine XS.go (s_iconst (v := 1) rfl rfl) ?_
    refine XS.go (s_goto (tgt := 14) rfl rfl) ?_
    exact XR.forget (L2 := [some (.ref 1262), some (.int a0), some (.int a1), some (.int a2), none, none, none, none]) ⟨rfl, ⟨rfl, ⟨rfl, ⟨rfl, trivial⟩⟩⟩⟩ (kb_m_judgeValue_14 L0 hf)
def b_m_stood_68 (x1 : Int32) (x7 : Int32) (h : XH) : Option (Int32 × XH) := (some ((x1 + x7), h))
set_option maxRecDepth 20000 in
theorem kb_m_stood_68 {l : Launch} {G : XG} {d : Nat} {x1 : Int32} {x7 : Int32} {h : XH} {r : Int32 × XH} (L0 : LY h) (hf : b_m_stood_68 x1 x7 h = some r) : XR l G xEX12_stood (d + 2) (68, [none, some (.int x1), none, none, none, none, none, some (.int x7)], [], h) (fun C => ∃ v, xRet xEX12_stood C v ∧ (C.2.2.2 = r.2 ∧ v = some (.int r.1)) ∧ LY r.2) := by
  unfold b_m_stood_68 at hf
  refine XS.go (s_iloadn rfl rfl rfl) ?_
  refine XS.go (s_iload rfl rfl) ?_
  refine XS.go (s_iadd rfl) ?_
  cases hf
  exact XR.reti rfl rfl (fun hret => ⟨_, hret, ⟨rfl, rfl⟩, L0⟩)
def b_m_stood_40 (x1 : Int32) (x6 : Int32) (x7 : Int32) (h : XH) : Option (Int32 × XH) := (match f_m_wrong 10 x6 h with | none => none | some r1 => (b_m_stood_68 x1 x7 r1.2))
set_option maxRecDepth 20000 in
theorem kb_m_stood_40 {l : Launch} {G : XG} {d : Nat} {x1 : Int32} {x6 : Int32} {x7 : Int32} {h : XH} {r : Int32 × XH} (L0 : LY h) (hf : b_m_stood_40 x1 x6 x7 h = some r) : XR l G xEX12_stood (d + 2) (40, [some (.ref 1262), some (.int x1), none, none, none, none, some (.int x6), some (.int x7)], [], h) (fun C => ∃ v, xRet xEX12_stood C v ∧ (C.2.2.2 = r.2 ∧ v = some (.int r.1)) ∧ LY r.2) := by
  unfold b_m_stood_40 at hf
  refine XS.go (s_aloadn rfl rfl rfl) ?_
  refine XS.go (s_bipush (v := 10) rfl rfl) ?_
  refine XS.go (s_iload rfl rfl) ?_
  rcases e2 : f_m_wrong 10 x6 h with _ | r1
  · rw [e2] at hf; cases hf
  rw [e2] at hf; dsimp only at hf
  refine r_callv rfl xvX12_wrong xm12_462 (kf_m_wrong (d := d) L0 e2) (LY.lt L0 (by decide)) (LY.k1262 L0) (by decide) rfl rfl (by omega) (by decide) (Nat.le_of_ble_eq_true rfl) ?_
  rintro _ _ ⟨⟨rfl, rfl⟩, L3⟩
  refine XS.go (s_goto (tgt := 68) rfl rfl) ?_
  exact XR.forget (L2 := [none, some (.int x1), none, none, none, none, none, some (.int x7)]) ⟨rfl, ⟨rfl, trivial⟩⟩ (kb_m_stood_68 L3 hf)
def f_m_stood (a0 : Int32) (a1 : Int32) (a2 : Int32) (a3 : Int32) (a4 : Int32) (h : XH) : Option (Int32 × XH) := (match f_m_far a1 a2 h with | none => none | some r4 => (if r4.1 < 4 then (b_m_stood_40 a0 ((a1 + 4) + (2 * a2)) r4.1 r4.2) else (match f_m_number (a1 + 2) 2 r4.2 with | none => none | some r8 => (if (r4.1 + a3) ≤ (Int64.toInt32 r8.1) then (if ¬ a4 = 0 then (if ((a0 + r4.1) - (a0 + r4.1) / a4 * a4) = 0 then (b_m_stood_68 a0 r4.1 r8.2) else (match f_m_wrong 3 ((a1 + 4) + (2 * a2)) r8.2 with | none => none | some r14 => (b_m_stood_68 a0 r4.1 r14.2))) else none) else (b_m_stood_40 a0 ((a1 + 4) + (2 * a2)) r4.1 r8.2)))))
set_option maxRecDepth 20000 in
theorem kf_m_stood {l : Launch} {G : XG} {d : Nat} {a0 : Int32} {a1 : Int32} {a2 : Int32} {a3 : Int32} {a4 : Int32} {h : XH} {r : Int32 × XH} (L0 : LY h) (hf : f_m_stood a0 a1 a2 a3 a4 h = some r) : XC l G xEX12_stood (d + 2) [.ref 1262, .int a0, .int a1, .int a2, .int a3, .int a4] h (fun v h2 => (h2 = r.2 ∧ v = some (.int r.1)) ∧ LY r.2) := by
  refine XC.virt xvX12_stood (Nat.le_of_ble_eq_true rfl) ?_
  unfold f_m_stood at hf
  refine XS.go (s_iloadn rfl rfl rfl) ?_
  refine XS.go (s_iconst (v := 4) rfl rfl) ?_
  refine XS.go (s_iadd rfl) ?_
  refine XS.go (s_iconst (v := 2) rfl rfl) ?_
  refine XS.go (s_iloadn rfl rfl rfl) ?_
  refine XS.go (s_imul rfl) ?_
  refine XS.go (s_iadd rfl) ?_
  refine XS.go (s_istore rfl (Nat.le_of_ble_eq_true rfl)) ?_
  refine XS.go (s_aloadn rfl rfl rfl) ?_
  refine XS.go (s_iloadn rfl rfl rfl) ?_
  refine XS.go (s_iloadn rfl rfl rfl) ?_
  rcases e5 : f_m_far a1 a2 h with _ | r4
  · rw [e5] at hf; cases hf
  rw [e5] at hf; dsimp only at hf
  refine r_callv rfl xvX12_far xm12_484 (kf_m_far (d := d) L0 e5) (LY.lt L0 (by decide)) (LY.k1262 L0) (by decide) rfl rfl (by omega) (by decide) (Nat.le_of_ble_eq_true rfl) ?_
  rintro _ _ ⟨⟨rfl, rfl⟩, L6⟩
  refine XS.go (s_istore rfl (Nat.le_of_ble_eq_true rfl)) ?_
  refine XS.go (s_iload rfl rfl) ?_
  refine XS.go (s_iconst (v := 4) rfl rfl) ?_
  refine r_icmp_lt (tgt := 40) rfl rfl (fun qc7 => ?_) (fun qc7 => ?_)
  · rw [if_pos qc7] at hf
    exact XR.forget (L2 := [some (.ref 1262), some (.int a0), none, none, none, none, some (.int ((a1 + 4) + (2 * a2))), some (.int r4.1)]) ⟨rfl, ⟨rfl, ⟨rfl, ⟨rfl, trivial⟩⟩⟩⟩ (kb_m_stood_40 L6 hf)
  · rw [if_neg qc7] at hf
    refine XS.go (s_iload rfl rfl) ?_
    refine XS.go (s_iload rfl rfl) ?_
    refine XS.go (s_iadd rfl) ?_
    refine XS.go (s_aloadn rfl rfl rfl) ?_
    refine XS.go (s_iloadn rfl rfl rfl) ?_
    refine XS.go (s_iconst (v := 2) rfl rfl) ?_
    refine XS.go (s_iadd rfl) ?_
    refine XS.go (s_iconst (v := 2) rfl rfl) ?_
    rcases e9 : f_m_number (a1 + 2) 2 r4.2 with _ | r8
    · rw [e9] at hf; cases hf
    rw [e9] at hf; dsimp only at hf
    refine r_callv rfl xvX12_number xm12_467 (kf_m_number (d := d) L6 e9) (LY.lt L6 (by decide)) (LY.k1262 L6) (by decide) rfl rfl (by omega) (by decide) (Nat.le_of_ble_eq_true rfl) ?_
    rintro _ _ ⟨⟨rfl, rfl⟩, L10⟩
    refine XS.go (s_l2i rfl) ?_
    refine r_icmp_le (tgt := 51) rfl rfl (fun qc11 => ?_) (fun qc11 => ?_)
    · rw [if_pos qc11] at hf
      refine XS.go (s_iloadn rfl rfl rfl) ?_
      refine XS.go (s_iload rfl rfl) ?_
      refine XS.go (s_iadd rfl) ?_
      refine XS.go (s_iload rfl rfl) ?_
      by_cases qk12 : ¬ a4 = 0
      rotate_left
      · rw [if_neg qk12] at hf; cases hf
      rw [if_pos qk12] at hf
      refine XS.go (s_irem qk12 rfl) ?_
      refine r_if_eq (tgt := 68) rfl rfl (fun qc13 => ?_) (fun qc13 => ?_)
      · rw [if_pos qc13] at hf
        exact XR.forget (L2 := [none, some (.int a0), none, none, none, none, none, some (.int r4.1)]) ⟨rfl, ⟨rfl, trivial⟩⟩ (kb_m_stood_68 L10 hf)
      · rw [if_neg qc13] at hf
        refine XS.go (s_aloadn rfl rfl rfl) ?_
        refine XS.go (s_iconst (v := 3) rfl rfl) ?_
        refine XS.go (s_iload rfl rfl) ?_
        rcases e15 : f_m_wrong 3 ((a1 + 4) + (2 * a2)) r8.2 with _ | r14
        · rw [e15] at hf; cases hf
        rw [e15] at hf; dsimp only at hf
        refine r_callv rfl xvX12_wrong xm12_462 (kf_m_wrong (d := d) L10 e15) (LY.lt L10 (by decide)) (LY.k1262 L10) (by decide) rfl rfl (by omega) (by decide) (Nat.le_of_ble_eq_true rfl) ?_
        rintro _ _ ⟨⟨rfl, rfl⟩, L16⟩
        exact XR.forget (L2 := [none, some (.int a0), none, none, none, none, none, some (.int r4.1)]) ⟨rfl, ⟨rfl, trivial⟩⟩ (kb_m_stood_68 L16 hf)
    · rw [if_neg qc11] at hf
      exact XR.forget (L2 := [some (.ref 1262), some (.int a0), none, none, none, none, some (.int ((a1 + 4) + (2 * a2))), some (.int r4.1)]) ⟨rfl, ⟨rfl, ⟨rfl, ⟨rfl, trivial⟩⟩⟩⟩ (kb_m_stood_40 L10 hf)
def b_m_led_58 (x1 : Int32) (x2 : Int64) (h : XH) : Option (Int32 × XH) := (if ¬ (hi h 1262 76) = 0 then (some (0, h)) else (some ((Int64.toInt32 ((Int32.toInt64 x1) + x2)), h)))
set_option maxRecDepth 20000 in
theorem kb_m_led_58 {l : Launch} {G : XG} {d : Nat} {x1 : Int32} {x2 : Int64} {h : XH} {r : Int32 × XH} (L0 : LY h) (hf : b_m_led_58 x1 x2 h = some r) : XR l G xEX12_led (d + 1) (58, [some (.ref 1262), some (.int x1), some (.long x2), none], [], h) (fun C => ∃ v, xRet xEX12_led C v ∧ (C.2.2.2 = r.2 ∧ v = some (.int r.1)) ∧ LY r.2) := by
  unfold b_m_led_58 at hf
  refine XS.go (s_aloadn rfl rfl rfl) ?_
  refine XS.go (s_getie rfl xf12_450 (LY.lt L0 (by decide)) (LY.k1262 L0) (by decide) rfl rfl) ?_
  refine r_if_ne (tgt := 73) rfl rfl (fun qc1 => ?_) (fun qc1 => ?_)
  · rw [if_pos qc1] at hf
    refine XS.go (s_iconst (v := 0) rfl rfl) ?_
    cases hf
    exact XR.reti rfl rfl (fun hret => ⟨_, hret, ⟨rfl, rfl⟩, L0⟩)
  · rw [if_neg qc1] at hf
    refine XS.go (s_iloadn rfl rfl rfl) ?_
    refine XS.go (s_i2l rfl) ?_
    refine XS.go (s_lloadn rfl rfl rfl) ?_
    refine XS.go (s_ladd rfl) ?_
    refine XS.go (s_l2i rfl) ?_
    refine XS.go (s_goto (tgt := 74) rfl rfl) ?_
    cases hf
    exact XR.reti rfl rfl (fun hret => ⟨_, hret, ⟨rfl, rfl⟩, L0⟩)
def b_m_led_30 (x1 : Int32) (x2 : Int64) (h : XH) : Option (Int32 × XH) := (match f_m_wrong 2 x1 h with | none => none | some r2 => (b_m_led_58 x1 x2 r2.2))
set_option maxRecDepth 20000 in
theorem kb_m_led_30 {l : Launch} {G : XG} {d : Nat} {x1 : Int32} {x2 : Int64} {h : XH} {r : Int32 × XH} (L0 : LY h) (hf : b_m_led_30 x1 x2 h = some r) : XR l G xEX12_led (d + 1) (30, [some (.ref 1262), some (.int x1), some (.long x2), none], [], h) (fun C => ∃ v, xRet xEX12_led C v ∧ (C.2.2.2 = r.2 ∧ v = some (.int r.1)) ∧ LY r.2) := by
  unfold b_m_led_30 at hf
  refine XS.go (s_aloadn rfl rfl rfl) ?_
  refine XS.go (s_iconst (v := 2) rfl rfl) ?_
  refine XS.go (s_iloadn rfl rfl rfl) ?_
  rcases e3 : f_m_wrong 2 x1 h with _ | r2
  · rw [e3] at hf; cases hf
  rw [e3] at hf; dsimp only at hf
  refine r_callv rfl xvX12_wrong xm12_462 (kf_m_wrong (d := d) L0 e3) (LY.lt L0 (by decide)) (LY.k1262 L0) (by decide) rfl rfl (by omega) (by decide) (Nat.le_of_ble_eq_true rfl) ?_
  rintro _ _ ⟨⟨rfl, rfl⟩, L4⟩
  refine XS.go (s_goto (tgt := 58) rfl rfl) ?_
  exact XR.forget (L2 := [some (.ref 1262), some (.int x1), some (.long x2), none]) ⟨rfl, ⟨rfl, ⟨rfl, trivial⟩⟩⟩ (kb_m_led_58 L4 hf)
def f_m_led (a0 : Int32) (h : XH) : Option (Int32 × XH) := (match f_m_number a0 4 h with | none => none | some r5 => (if (lg_cmp r5.1 0) = 0 then (b_m_led_30 a0 r5.1 r5.2) else (if (lg_cmp (((Int32.toInt64 a0) + r5.1) + 4) (Int32.toInt64 (hi r5.2 1262 75))) ≤ 0 then (if (lg_cmp (((Int32.toInt64 a0) + r5.1) - ((Int32.toInt64 a0) + r5.1) / 4 * 4) 0) = 0 then (b_m_led_58 a0 r5.1 r5.2) else (match f_m_wrong 3 a0 r5.2 with | none => none | some r11 => (b_m_led_58 a0 r5.1 r11.2))) else (b_m_led_30 a0 r5.1 r5.2))))
set_option maxRecDepth 20000 in
theorem kf_m_led {l : Launch} {G : XG} {d : Nat} {a0 : Int32} {h : XH} {r : Int32 × XH} (L0 : LY h) (hf : f_m_led a0 h = some r) : XC l G xEX12_led (d + 1) [.ref 1262, .int a0] h (fun v h2 => (h2 = r.2 ∧ v = some (.int r.1)) ∧ LY r.2) := by
  refine XC.virt xvX12_led (Nat.le_of_ble_eq_true rfl) ?_
  unfold f_m_led at hf
  refine XS.go (s_aloadn rfl rfl rfl) ?_
  refine XS.go (s_iloadn rfl rfl rfl) ?_
  refine XS.go (s_iconst (v := 4) rfl rfl) ?_
  rcases e6 : f_m_number a0 4 h with _ | r5
  · rw [e6] at hf; cases hf
  rw [e6] at hf; dsimp only at hf
  refine r_callv rfl xvX12_number xm12_467 (kf_m_number (d := d) L0 e6) (LY.lt L0 (by decide)) (LY.k1262 L0) (by decide) rfl rfl (by omega) (by decide) (Nat.le_of_ble_eq_true rfl) ?_
  rintro _ _ ⟨⟨rfl, rfl⟩, L7⟩
  refine XS.go (s_lstoren rfl rfl (Nat.le_of_ble_eq_true rfl)) ?_
  refine XS.go (s_lloadn rfl rfl rfl) ?_
  refine XS.go (s_lconst (v := 0) rfl rfl) ?_
  refine XS.go (s_lcmp rfl) ?_
  refine r_if_eq (tgt := 30) rfl rfl (fun qc8 => ?_) (fun qc8 => ?_)
  · rw [if_pos qc8] at hf
    exact XR.forget (L2 := [some (.ref 1262), some (.int a0), some (.long r5.1), none]) ⟨rfl, ⟨rfl, ⟨rfl, trivial⟩⟩⟩ (kb_m_led_30 L7 hf)
  · rw [if_neg qc8] at hf
    refine XS.go (s_iloadn rfl rfl rfl) ?_
    refine XS.go (s_i2l rfl) ?_
    refine XS.go (s_lloadn rfl rfl rfl) ?_
    refine XS.go (s_ladd rfl) ?_
    refine XS.go (s_ldc2 rfl (lg_9 176 rfl rfl)) ?_
    refine XS.go (s_ladd rfl) ?_
    refine XS.go (s_aloadn rfl rfl rfl) ?_
    refine XS.go (s_getie rfl xf12_459 (LY.lt L7 (by decide)) (LY.k1262 L7) (by decide) rfl rfl) ?_
    refine XS.go (s_i2l rfl) ?_
    refine XS.go (s_lcmp rfl) ?_
    refine r_if_le (tgt := 39) rfl rfl (fun qc9 => ?_) (fun qc9 => ?_)
    · rw [if_pos qc9] at hf
      refine XS.go (s_iloadn rfl rfl rfl) ?_
      refine XS.go (s_i2l rfl) ?_
      refine XS.go (s_lloadn rfl rfl rfl) ?_
      refine XS.go (s_ladd rfl) ?_
      refine XS.go (s_ldc2 rfl (lg_9 176 rfl rfl)) ?_
      refine XS.go (s_lrem (by decide) rfl) ?_
      refine XS.go (s_lconst (v := 0) rfl rfl) ?_
      refine XS.go (s_lcmp rfl) ?_
      refine r_if_eq (tgt := 58) rfl rfl (fun qc10 => ?_) (fun qc10 => ?_)
      · rw [if_pos qc10] at hf
        exact XR.forget (L2 := [some (.ref 1262), some (.int a0), some (.long r5.1), none]) ⟨rfl, ⟨rfl, ⟨rfl, trivial⟩⟩⟩ (kb_m_led_58 L7 hf)
      · rw [if_neg qc10] at hf
        refine XS.go (s_aloadn rfl rfl rfl) ?_
        refine XS.go (s_iconst (v := 3) rfl rfl) ?_
        refine XS.go (s_iloadn rfl rfl rfl) ?_
        rcases e12 : f_m_wrong 3 a0 r5.2 with _ | r11
        · rw [e12] at hf; cases hf
        rw [e12] at hf; dsimp only at hf
        refine r_callv rfl xvX12_wrong xm12_462 (kf_m_wrong (d := d) L7 e12) (LY.lt L7 (by decide)) (LY.k1262 L7) (by decide) rfl rfl (by omega) (by decide) (Nat.le_of_ble_eq_true rfl) ?_
        rintro _ _ ⟨⟨rfl, rfl⟩, L13⟩
        exact XR.forget (L2 := [some (.ref 1262), some (.int a0), some (.long r5.1), none]) ⟨rfl, ⟨rfl, ⟨rfl, trivial⟩⟩⟩ (kb_m_led_58 L13 hf)
    · rw [if_neg qc9] at hf
      exact XR.forget (L2 := [some (.ref 1262), some (.int a0), some (.long r5.1), none]) ⟨rfl, ⟨rfl, ⟨rfl, trivial⟩⟩⟩ (kb_m_led_30 L7 hf)
def f_m_toText (a0 : Int32) (h : XH) : Option (Unit × XH) := (match f_m_led a0 h with | none => none | some r1 => (if (hi r1.2 1262 76) = 0 then (match f_m_number r1.1 4 r1.2 with | none => none | some r5 => (if (lg_cmp ((((Int32.toInt64 r1.1) + 4) + r5.1) + 1) (Int32.toInt64 (hi r5.2 1262 75))) ≤ 0 then (if 0 ≤ ((r1.1 + 4) + (Int64.toInt32 r5.1)) ∧ ((r1.1 + 4) + (Int64.toInt32 r5.1)) < nI 4000 then (if (hi r5.2 1310 (Int32.toNatClampNeg ((r1.1 + 4) + (Int64.toInt32 r5.1)))) = 0 then (some ((), r5.2)) else (match f_m_wrong 14 ((r1.1 + 4) + (Int64.toInt32 r5.1)) r5.2 with | none => none | some r11 => (some ((), r11.2)))) else none) else (match f_m_wrong 13 r1.1 r5.2 with | none => none | some r14 => (some ((), r14.2))))) else (some ((), r1.2))))
set_option maxRecDepth 20000 in
theorem kf_m_toText {l : Launch} {G : XG} {d : Nat} {a0 : Int32} {h : XH} {r : Unit × XH} (L0 : LY h) (hf : f_m_toText a0 h = some r) : XC l G xEX12_toText (d + 2) [.ref 1262, .int a0] h (fun v h2 => (h2 = r.2 ∧ v = none) ∧ LY r.2) := by
  refine XC.virt xvX12_toText (Nat.le_of_ble_eq_true rfl) ?_
  unfold f_m_toText at hf
  refine XS.go (s_aloadn rfl rfl rfl) ?_
  refine XS.go (s_iloadn rfl rfl rfl) ?_
  rcases e2 : f_m_led a0 h with _ | r1
  · rw [e2] at hf; cases hf
  rw [e2] at hf; dsimp only at hf
  refine r_callv rfl xvX12_led xm12_473 (kf_m_led (d := d) L0 e2) (LY.lt L0 (by decide)) (LY.k1262 L0) (by decide) rfl rfl (by omega) (by decide) (Nat.le_of_ble_eq_true rfl) ?_
  rintro _ _ ⟨⟨rfl, rfl⟩, L3⟩
  refine XS.go (s_istoren rfl rfl (Nat.le_of_ble_eq_true rfl)) ?_
  refine XS.go (s_aloadn rfl rfl rfl) ?_
  refine XS.go (s_getie rfl xf12_450 (LY.lt L3 (by decide)) (LY.k1262 L3) (by decide) rfl rfl) ?_
  refine r_if_eq (tgt := 14) rfl rfl (fun qc4 => ?_) (fun qc4 => ?_)
  · rw [if_pos qc4] at hf
    refine XS.go (s_aloadn rfl rfl rfl) ?_
    refine XS.go (s_iloadn rfl rfl rfl) ?_
    refine XS.go (s_iconst (v := 4) rfl rfl) ?_
    rcases e6 : f_m_number r1.1 4 r1.2 with _ | r5
    · rw [e6] at hf; cases hf
    rw [e6] at hf; dsimp only at hf
    refine r_callv rfl xvX12_number xm12_467 (kf_m_number (d := d) L3 e6) (LY.lt L3 (by decide)) (LY.k1262 L3) (by decide) rfl rfl (by omega) (by decide) (Nat.le_of_ble_eq_true rfl) ?_
    rintro _ _ ⟨⟨rfl, rfl⟩, L7⟩
    refine XS.go (s_lstoren rfl rfl (Nat.le_of_ble_eq_true rfl)) ?_
    refine XS.go (s_iloadn rfl rfl rfl) ?_
    refine XS.go (s_i2l rfl) ?_
    refine XS.go (s_ldc2 rfl (lg_9 176 rfl rfl)) ?_
    refine XS.go (s_ladd rfl) ?_
    refine XS.go (s_lloadn rfl rfl rfl) ?_
    refine XS.go (s_ladd rfl) ?_
    refine XS.go (s_lconst (v := 1) rfl rfl) ?_
    refine XS.go (s_ladd rfl) ?_
    refine XS.go (s_aloadn rfl rfl rfl) ?_
    refine XS.go (s_getie rfl xf12_459 (LY.lt L7 (by decide)) (LY.k1262 L7) (by decide) rfl rfl) ?_
    refine XS.go (s_i2l rfl) ?_
    refine XS.go (s_lcmp rfl) ?_
    refine r_if_le (tgt := 50) rfl rfl (fun qc8 => ?_) (fun qc8 => ?_)
    · rw [if_pos qc8] at hf
      refine XS.go (s_aloadn rfl rfl rfl) ?_
      refine XS.go (s_getr rfl xf12_157 (LY.lt L7 (by decide)) (LY.k1262 L7) (by decide) rfl (LY.r1262_74 L7)) ?_
      refine XS.go (s_iloadn rfl rfl rfl) ?_
      refine XS.go (s_iconst (v := 4) rfl rfl) ?_
      refine XS.go (s_iadd rfl) ?_
      refine XS.go (s_lloadn rfl rfl rfl) ?_
      refine XS.go (s_l2i rfl) ?_
      refine XS.go (s_iadd rfl) ?_
      by_cases qk9 : 0 ≤ ((r1.1 + 4) + (Int64.toInt32 r5.1)) ∧ ((r1.1 + 4) + (Int64.toInt32 r5.1)) < nI 4000
      rotate_left
      · rw [if_neg qk9] at hf; cases hf
      rw [if_pos qk9] at hf
      refine XS.go (s_ialde rfl (LY.lt L7 (by decide)) (LY.k1310 L7) (inLit (LY.n1310 L7) qk9.1 qk9.2 (by decide)) rfl) ?_
      refine r_if_eq (tgt := 76) rfl rfl (fun qc10 => ?_) (fun qc10 => ?_)
      · rw [if_pos qc10] at hf
        cases hf
        exact XR.retv rfl rfl (fun hret => ⟨_, hret, ⟨rfl, rfl⟩, L7⟩)
      · rw [if_neg qc10] at hf
        refine XS.go (s_aloadn rfl rfl rfl) ?_
        refine XS.go (s_bipush (v := 14) rfl rfl) ?_
        refine XS.go (s_iloadn rfl rfl rfl) ?_
        refine XS.go (s_iconst (v := 4) rfl rfl) ?_
        refine XS.go (s_iadd rfl) ?_
        refine XS.go (s_lloadn rfl rfl rfl) ?_
        refine XS.go (s_l2i rfl) ?_
        refine XS.go (s_iadd rfl) ?_
        rcases e12 : f_m_wrong 14 ((r1.1 + 4) + (Int64.toInt32 r5.1)) r5.2 with _ | r11
        · rw [e12] at hf; cases hf
        rw [e12] at hf; dsimp only at hf
        refine r_callv rfl xvX12_wrong xm12_462 (kf_m_wrong (d := d) L7 e12) (LY.lt L7 (by decide)) (LY.k1262 L7) (by decide) rfl rfl (by omega) (by decide) (Nat.le_of_ble_eq_true rfl) ?_
        rintro _ _ ⟨⟨rfl, rfl⟩, L13⟩
        cases hf
        exact XR.retv rfl rfl (fun hret => ⟨_, hret, ⟨rfl, rfl⟩, L13⟩)
    · rw [if_neg qc8] at hf
      refine XS.go (s_aloadn rfl rfl rfl) ?_
      refine XS.go (s_bipush (v := 13) rfl rfl) ?_
      refine XS.go (s_iloadn rfl rfl rfl) ?_
      rcases e15 : f_m_wrong 13 r1.1 r5.2 with _ | r14
      · rw [e15] at hf; cases hf
      rw [e15] at hf; dsimp only at hf
      refine r_callv rfl xvX12_wrong xm12_462 (kf_m_wrong (d := d) L7 e15) (LY.lt L7 (by decide)) (LY.k1262 L7) (by decide) rfl rfl (by omega) (by decide) (Nat.le_of_ble_eq_true rfl) ?_
      rintro _ _ ⟨⟨rfl, rfl⟩, L16⟩
      refine XS.go (s_goto (tgt := 76) rfl rfl) ?_
      cases hf
      exact XR.retv rfl rfl (fun hret => ⟨_, hret, ⟨rfl, rfl⟩, L16⟩)
  · rw [if_neg qc4] at hf
    cases hf
    exact XR.retv rfl rfl (fun hret => ⟨_, hret, ⟨rfl, rfl⟩, L3⟩)
def f_m_enter (a0 : Int32) (a1 : Int32) (a2 : Int32) (a3 : Int32) (h : XH) : Option (Unit × XH) := (if 0 ≤ (hi h 1262 87) ∧ (hi h 1262 87) < nI 100 then (if 0 ≤ (hi h 1262 87) ∧ (hi h 1262 87) < nI 100 then (if 0 ≤ (hi h 1262 87) ∧ (hi h 1262 87) < nI 100 then (if 0 ≤ (hi h 1262 87) ∧ (hi h 1262 87) < nI 100 then (some ((), (hsi (hsi (hsi (hsi (hsi h 1312 (Int32.toNatClampNeg (hi h 1262 87)) a0) 1313 (Int32.toNatClampNeg (hi h 1262 87)) a1) 1314 (Int32.toNatClampNeg (hi h 1262 87)) a2) 1315 (Int32.toNatClampNeg (hi h 1262 87)) a3) 1262 87 ((hi h 1262 87) + 1)))) else none) else none) else none) else none)
set_option maxRecDepth 20000 in
theorem kf_m_enter {l : Launch} {G : XG} {d : Nat} {a0 : Int32} {a1 : Int32} {a2 : Int32} {a3 : Int32} {h : XH} {r : Unit × XH} (L0 : LY h) (hf : f_m_enter a0 a1 a2 a3 h = some r) : XC l G xEX12_enter d [.ref 1262, .int a0, .int a1, .int a2, .int a3] h (fun v h2 => (h2 = r.2 ∧ v = none) ∧ LY r.2) := by
  refine XC.virt xvX12_enter (Nat.le_of_ble_eq_true rfl) ?_
  unfold f_m_enter at hf
  refine XS.go (s_aloadn rfl rfl rfl) ?_
  refine XS.go (s_getr rfl xf12_163 (LY.lt L0 (by decide)) (LY.k1262 L0) (by decide) rfl (LY.r1262_83 L0)) ?_
  refine XS.go (s_aloadn rfl rfl rfl) ?_
  refine XS.go (s_getie rfl xf12_500 (LY.lt L0 (by decide)) (LY.k1262 L0) (by decide) rfl rfl) ?_
  refine XS.go (s_iloadn rfl rfl rfl) ?_
  by_cases qk1 : 0 ≤ (hi h 1262 87) ∧ (hi h 1262 87) < nI 100
  rotate_left
  · rw [if_neg qk1] at hf; cases hf
  rw [if_pos qk1] at hf
  refine XS.go (s_iast rfl (LY.lt L0 (by decide)) (LY.k1312 L0) (inLit (LY.n1312 L0) qk1.1 qk1.2 (by decide))) ?_
  refine XS.go (s_aloadn rfl rfl rfl) ?_
  refine XS.go (s_getr rfl xf12_166 (LY.lt (by simp only [LY_si, LY_sj]; exact L0) (by decide)) (LY.k1262 (by simp only [LY_si, LY_sj]; exact L0)) (by decide) rfl (LY.r1262_84 (by simp only [LY_si, LY_sj]; exact L0))) ?_
  refine XS.go (s_aloadn rfl rfl rfl) ?_
  refine XS.go (s_getie rfl xf12_500 (LY.lt (by simp only [LY_si, LY_sj]; exact L0) (by decide)) (LY.k1262 (by simp only [LY_si, LY_sj]; exact L0)) (by decide) rfl (hi_hsi_na (by decide))) ?_
  refine XS.go (s_iloadn rfl rfl rfl) ?_
  by_cases qk2 : 0 ≤ (hi h 1262 87) ∧ (hi h 1262 87) < nI 100
  rotate_left
  · rw [if_neg qk2] at hf; cases hf
  rw [if_pos qk2] at hf
  refine XS.go (s_iast rfl (LY.lt (by simp only [LY_si, LY_sj]; exact L0) (by decide)) (LY.k1313 (by simp only [LY_si, LY_sj]; exact L0)) (inLit (LY.n1313 (by simp only [LY_si, LY_sj]; exact L0)) qk2.1 qk2.2 (by decide))) ?_
  refine XS.go (s_aloadn rfl rfl rfl) ?_
  refine XS.go (s_getr rfl xf12_169 (LY.lt (by simp only [LY_si, LY_sj]; exact L0) (by decide)) (LY.k1262 (by simp only [LY_si, LY_sj]; exact L0)) (by decide) rfl (LY.r1262_85 (by simp only [LY_si, LY_sj]; exact L0))) ?_
  refine XS.go (s_aloadn rfl rfl rfl) ?_
  refine XS.go (s_getie rfl xf12_500 (LY.lt (by simp only [LY_si, LY_sj]; exact L0) (by decide)) (LY.k1262 (by simp only [LY_si, LY_sj]; exact L0)) (by decide) rfl ((hi_hsi_na (by decide)).trans (hi_hsi_na (by decide)))) ?_
  refine XS.go (s_iloadn rfl rfl rfl) ?_
  by_cases qk3 : 0 ≤ (hi h 1262 87) ∧ (hi h 1262 87) < nI 100
  rotate_left
  · rw [if_neg qk3] at hf; cases hf
  rw [if_pos qk3] at hf
  refine XS.go (s_iast rfl (LY.lt (by simp only [LY_si, LY_sj]; exact L0) (by decide)) (LY.k1314 (by simp only [LY_si, LY_sj]; exact L0)) (inLit (LY.n1314 (by simp only [LY_si, LY_sj]; exact L0)) qk3.1 qk3.2 (by decide))) ?_
  refine XS.go (s_aloadn rfl rfl rfl) ?_
  refine XS.go (s_getr rfl xf12_172 (LY.lt (by simp only [LY_si, LY_sj]; exact L0) (by decide)) (LY.k1262 (by simp only [LY_si, LY_sj]; exact L0)) (by decide) rfl (LY.r1262_86 (by simp only [LY_si, LY_sj]; exact L0))) ?_
  refine XS.go (s_aloadn rfl rfl rfl) ?_
  refine XS.go (s_getie rfl xf12_500 (LY.lt (by simp only [LY_si, LY_sj]; exact L0) (by decide)) (LY.k1262 (by simp only [LY_si, LY_sj]; exact L0)) (by decide) rfl ((hi_hsi_na (by decide)).trans ((hi_hsi_na (by decide)).trans (hi_hsi_na (by decide))))) ?_
  refine XS.go (s_iload rfl rfl) ?_
  by_cases qk4 : 0 ≤ (hi h 1262 87) ∧ (hi h 1262 87) < nI 100
  rotate_left
  · rw [if_neg qk4] at hf; cases hf
  rw [if_pos qk4] at hf
  refine XS.go (s_iast rfl (LY.lt (by simp only [LY_si, LY_sj]; exact L0) (by decide)) (LY.k1315 (by simp only [LY_si, LY_sj]; exact L0)) (inLit (LY.n1315 (by simp only [LY_si, LY_sj]; exact L0)) qk4.1 qk4.2 (by decide))) ?_
  refine XS.go (s_aloadn rfl rfl rfl) ?_
  refine XS.go (s_dup rfl rfl) ?_
  refine XS.go (s_getie rfl xf12_500 (LY.lt (by simp only [LY_si, LY_sj]; exact L0) (by decide)) (LY.k1262 (by simp only [LY_si, LY_sj]; exact L0)) (by decide) rfl ((hi_hsi_na (by decide)).trans ((hi_hsi_na (by decide)).trans ((hi_hsi_na (by decide)).trans (hi_hsi_na (by decide)))))) ?_
  refine XS.go (s_iconst (v := 1) rfl rfl) ?_
  refine XS.go (s_iadd rfl) ?_
  refine XS.go (s_puti rfl xf12_500 (LY.lt (by simp only [LY_si, LY_sj]; exact L0) (by decide)) (LY.k1262 (by simp only [LY_si, LY_sj]; exact L0)) (by decide) rfl (Or.inl rfl)) ?_
  cases hf
  exact XR.retv rfl rfl (fun hret => ⟨_, hret, ⟨rfl, rfl⟩, (by simp only [LY_si, LY_sj]; exact L0)⟩)
def f_m_atRoot (h : XH) : Option (Unit × XH) := (match f_m_number 0 4 (hsi h 1262 87 0) with | none => none | some r1 => (match f_m_enter 3 (hi h 1262 45) (-1) (Int64.toInt32 r1.1) r1.2 with | none => none | some r4 => (some ((), r4.2))))
set_option maxRecDepth 20000 in
theorem kf_m_atRoot {l : Launch} {G : XG} {d : Nat} {h : XH} {r : Unit × XH} (L0 : LY h) (hf : f_m_atRoot h = some r) : XC l G xEX12_atRoot (d + 1) [.ref 1262] h (fun v h2 => (h2 = r.2 ∧ v = none) ∧ LY r.2) := by
  refine XC.virt xvX12_atRoot (Nat.le_of_ble_eq_true rfl) ?_
  unfold f_m_atRoot at hf
  refine XS.go (s_aloadn rfl rfl rfl) ?_
  refine XS.go (s_iconst (v := 0) rfl rfl) ?_
  refine XS.go (s_puti rfl xf12_500 (LY.lt L0 (by decide)) (LY.k1262 L0) (by decide) rfl (Or.inl rfl)) ?_
  refine XS.go (s_aloadn rfl rfl rfl) ?_
  refine XS.go (s_iconst (v := 3) rfl rfl) ?_
  refine XS.go (s_aloadn rfl rfl rfl) ?_
  refine XS.go (s_getie rfl xf12_338 (LY.lt (by simp only [LY_si, LY_sj]; exact L0) (by decide)) (LY.k1262 (by simp only [LY_si, LY_sj]; exact L0)) (by decide) rfl (hi_hsi_nk (by decide))) ?_
  refine XS.go (s_iconst (v := (-1)) rfl rfl) ?_
  refine XS.go (s_aloadn rfl rfl rfl) ?_
  refine XS.go (s_iconst (v := 0) rfl rfl) ?_
  refine XS.go (s_iconst (v := 4) rfl rfl) ?_
  rcases e2 : f_m_number 0 4 (hsi h 1262 87 0) with _ | r1
  · rw [e2] at hf; cases hf
  rw [e2] at hf; dsimp only at hf
  refine r_callv rfl xvX12_number xm12_467 (kf_m_number (d := d) (by simp only [LY_si, LY_sj]; exact L0) e2) (LY.lt (by simp only [LY_si, LY_sj]; exact L0) (by decide)) (LY.k1262 (by simp only [LY_si, LY_sj]; exact L0)) (by decide) rfl rfl (by omega) (by decide) (Nat.le_of_ble_eq_true rfl) ?_
  rintro _ _ ⟨⟨rfl, rfl⟩, L3⟩
  refine XS.go (s_l2i rfl) ?_
  rcases e5 : f_m_enter 3 (hi h 1262 45) (-1) (Int64.toInt32 r1.1) r1.2 with _ | r4
  · rw [e5] at hf; cases hf
  rw [e5] at hf; dsimp only at hf
  refine r_callv rfl xvX12_enter xm12_503 (kf_m_enter (d := d) L3 e5) (LY.lt L3 (by decide)) (LY.k1262 L3) (by decide) rfl rfl (by omega) (by decide) (Nat.le_of_ble_eq_true rfl) ?_
  rintro _ _ ⟨⟨rfl, rfl⟩, L6⟩
  cases hf
  exact XR.retv rfl rfl (fun hret => ⟨_, hret, ⟨rfl, rfl⟩, L6⟩)
def b_m_back_10 : Nat → Int32 → XH → Option (Unit × XH)
  | 0, _, _ => none
  | n + 1, x1, h => (if (hi h 1262 75) ≤ x1 then (some ((), h)) else (if 0 ≤ x1 ∧ x1 < nI 4000 then (if 0 ≤ x1 ∧ x1 < nI 4000 then (b_m_back_10 n (x1 + 1) (hsi h 1310 (Int32.toNatClampNeg x1) (hi h 1311 (Int32.toNatClampNeg x1)))) else none) else none))
set_option maxRecDepth 20000 in
theorem kb_m_back_10 {l : Launch} {G : XG} {d : Nat} {n : Nat} {x1 : Int32} {h : XH} {r : Unit × XH} (L0 : LY h) (hf : b_m_back_10 n x1 h = some r) : XR l G xEX12_back d (10, [some (.ref 1262), some (.int x1)], [], h) (fun C => ∃ v, xRet xEX12_back C v ∧ (C.2.2.2 = r.2 ∧ v = none) ∧ LY r.2) := by
  induction n generalizing x1 h with
  | zero => cases hf
  | succ n ih =>
    replace ih : ∀ (x1 : Int32) (h : XH), LY h → b_m_back_10 n x1 h = some r → XR l G xEX12_back d (10, [some (.ref 1262), some (.int x1)], [], h) (fun C => ∃ v, xRet xEX12_back C v ∧ (C.2.2.2 = r.2 ∧ v = none) ∧ LY r.2) := fun x1 h L0 hf => ih (h := h) (x1 := x1) L0 hf
    rw [b_m_back_10] at hf
    refine XS.go (s_iloadn rfl rfl rfl) ?_
    refine XS.go (s_aloadn rfl rfl rfl) ?_
    refine XS.go (s_getie rfl xf12_459 (LY.lt L0 (by decide)) (LY.k1262 L0) (by decide) rfl rfl) ?_
    refine r_icmp_ge (tgt := 36) rfl rfl (fun qc1 => ?_) (fun qc1 => ?_)
    · rw [if_pos qc1] at hf
      cases hf
      exact XR.retv rfl rfl (fun hret => ⟨_, hret, ⟨rfl, rfl⟩, L0⟩)
    · rw [if_neg qc1] at hf
      refine XS.go (s_aloadn rfl rfl rfl) ?_
      refine XS.go (s_getr rfl xf12_157 (LY.lt L0 (by decide)) (LY.k1262 L0) (by decide) rfl (LY.r1262_74 L0)) ?_
      refine XS.go (s_iloadn rfl rfl rfl) ?_
      refine XS.go (s_aloadn rfl rfl rfl) ?_
      refine XS.go (s_getr rfl xf12_160 (LY.lt L0 (by decide)) (LY.k1262 L0) (by decide) rfl (LY.r1262_79 L0)) ?_
      refine XS.go (s_iloadn rfl rfl rfl) ?_
      by_cases qk2 : 0 ≤ x1 ∧ x1 < nI 4000
      rotate_left
      · rw [if_neg qk2] at hf; cases hf
      rw [if_pos qk2] at hf
      refine XS.go (s_ialde rfl (LY.lt L0 (by decide)) (LY.k1311 L0) (inLit (LY.n1311 L0) qk2.1 qk2.2 (by decide)) rfl) ?_
      by_cases qk3 : 0 ≤ x1 ∧ x1 < nI 4000
      rotate_left
      · rw [if_neg qk3] at hf; cases hf
      rw [if_pos qk3] at hf
      refine XS.go (s_iast rfl (LY.lt L0 (by decide)) (LY.k1310 L0) (inLit (LY.n1310 L0) qk3.1 qk3.2 (by decide))) ?_
      refine XS.go (s_inc rfl rfl (Nat.le_of_ble_eq_true rfl)) ?_
      refine XS.go (s_goto (tgt := 10) rfl rfl) ?_
      exact XR.forget (L2 := [some (.ref 1262), some (.int (x1 + 1))]) ⟨rfl, ⟨rfl, trivial⟩⟩ (ih (x1 + 1) _ (by simp only [LY_si, LY_sj]; exact L0) hf)
def f_m_back (h : XH) : Option (Unit × XH) := (b_m_back_10 100000 0 (hsi h 1262 75 (hi h 1262 80)))
set_option maxRecDepth 20000 in
theorem kf_m_back {l : Launch} {G : XG} {d : Nat} {h : XH} {r : Unit × XH} (L0 : LY h) (hf : f_m_back h = some r) : XC l G xEX12_back d [.ref 1262] h (fun v h2 => (h2 = r.2 ∧ v = none) ∧ LY r.2) := by
  refine XC.virt xvX12_back (Nat.le_of_ble_eq_true rfl) ?_
  unfold f_m_back at hf
  refine XS.go (s_aloadn rfl rfl rfl) ?_
  refine XS.go (s_aloadn rfl rfl rfl) ?_
  refine XS.go (s_getie rfl xf12_444 (LY.lt L0 (by decide)) (LY.k1262 L0) (by decide) rfl rfl) ?_
  refine XS.go (s_puti rfl xf12_459 (LY.lt L0 (by decide)) (LY.k1262 L0) (by decide) rfl (Or.inl rfl)) ?_
  refine XS.go (s_iconst (v := 0) rfl rfl) ?_
  refine XS.go (s_istoren rfl rfl (Nat.le_of_ble_eq_true rfl)) ?_
  exact XR.forget (L2 := [some (.ref 1262), some (.int 0)]) ⟨rfl, ⟨rfl, trivial⟩⟩ (kb_m_back_10 (by simp only [LY_si, LY_sj]; exact L0) hf)
def f_m_sort (h : XH) : Option (Int32 × XH) := (if 0 ≤ ((hi h 1262 87) - 1) ∧ ((hi h 1262 87) - 1) < nI 100 then (some ((hi h 1312 (Int32.toNatClampNeg ((hi h 1262 87) - 1))), h)) else none)
set_option maxRecDepth 20000 in
theorem kf_m_sort {l : Launch} {G : XG} {d : Nat} {h : XH} {r : Int32 × XH} (L0 : LY h) (hf : f_m_sort h = some r) : XC l G xEX12_sort d [.ref 1262] h (fun v h2 => (h2 = r.2 ∧ v = some (.int r.1)) ∧ LY r.2) := by
  refine XC.virt xvX12_sort (Nat.le_of_ble_eq_true rfl) ?_
  unfold f_m_sort at hf
  refine XS.go (s_aloadn rfl rfl rfl) ?_
  refine XS.go (s_getr rfl xf12_163 (LY.lt L0 (by decide)) (LY.k1262 L0) (by decide) rfl (LY.r1262_83 L0)) ?_
  refine XS.go (s_aloadn rfl rfl rfl) ?_
  refine XS.go (s_getie rfl xf12_500 (LY.lt L0 (by decide)) (LY.k1262 L0) (by decide) rfl rfl) ?_
  refine XS.go (s_iconst (v := 1) rfl rfl) ?_
  refine XS.go (s_isub rfl) ?_
  by_cases qk1 : 0 ≤ ((hi h 1262 87) - 1) ∧ ((hi h 1262 87) - 1) < nI 100
  rotate_left
  · rw [if_neg qk1] at hf; cases hf
  rw [if_pos qk1] at hf
  refine XS.go (s_ialde rfl (LY.lt L0 (by decide)) (LY.k1312 L0) (inLit (LY.n1312 L0) qk1.1 qk1.2 (by decide)) rfl) ?_
  cases hf
  exact XR.reti rfl rfl (fun hret => ⟨_, hret, ⟨rfl, rfl⟩, L0⟩)
def f_m_of (h : XH) : Option (Int32 × XH) := (if 0 ≤ ((hi h 1262 87) - 1) ∧ ((hi h 1262 87) - 1) < nI 100 then (some ((hi h 1313 (Int32.toNatClampNeg ((hi h 1262 87) - 1))), h)) else none)
set_option maxRecDepth 20000 in
theorem kf_m_of {l : Launch} {G : XG} {d : Nat} {h : XH} {r : Int32 × XH} (L0 : LY h) (hf : f_m_of h = some r) : XC l G xEX12_of d [.ref 1262] h (fun v h2 => (h2 = r.2 ∧ v = some (.int r.1)) ∧ LY r.2) := by
  refine XC.virt xvX12_of (Nat.le_of_ble_eq_true rfl) ?_
  unfold f_m_of at hf
  refine XS.go (s_aloadn rfl rfl rfl) ?_
  refine XS.go (s_getr rfl xf12_166 (LY.lt L0 (by decide)) (LY.k1262 L0) (by decide) rfl (LY.r1262_84 L0)) ?_
  refine XS.go (s_aloadn rfl rfl rfl) ?_
  refine XS.go (s_getie rfl xf12_500 (LY.lt L0 (by decide)) (LY.k1262 L0) (by decide) rfl rfl) ?_
  refine XS.go (s_iconst (v := 1) rfl rfl) ?_
  refine XS.go (s_isub rfl) ?_
  by_cases qk1 : 0 ≤ ((hi h 1262 87) - 1) ∧ ((hi h 1262 87) - 1) < nI 100
  rotate_left
  · rw [if_neg qk1] at hf; cases hf
  rw [if_pos qk1] at hf
  refine XS.go (s_ialde rfl (LY.lt L0 (by decide)) (LY.k1313 L0) (inLit (LY.n1313 L0) qk1.1 qk1.2 (by decide)) rfl) ?_
  cases hf
  exact XR.reti rfl rfl (fun hret => ⟨_, hret, ⟨rfl, rfl⟩, L0⟩)
def f_m_place (h : XH) : Option (Int32 × XH) := (if 0 ≤ ((hi h 1262 87) - 1) ∧ ((hi h 1262 87) - 1) < nI 100 then (some ((hi h 1315 (Int32.toNatClampNeg ((hi h 1262 87) - 1))), h)) else none)
set_option maxRecDepth 20000 in
theorem kf_m_place {l : Launch} {G : XG} {d : Nat} {h : XH} {r : Int32 × XH} (L0 : LY h) (hf : f_m_place h = some r) : XC l G xEX12_place d [.ref 1262] h (fun v h2 => (h2 = r.2 ∧ v = some (.int r.1)) ∧ LY r.2) := by
  refine XC.virt xvX12_place (Nat.le_of_ble_eq_true rfl) ?_
  unfold f_m_place at hf
  refine XS.go (s_aloadn rfl rfl rfl) ?_
  refine XS.go (s_getr rfl xf12_172 (LY.lt L0 (by decide)) (LY.k1262 L0) (by decide) rfl (LY.r1262_86 L0)) ?_
  refine XS.go (s_aloadn rfl rfl rfl) ?_
  refine XS.go (s_getie rfl xf12_500 (LY.lt L0 (by decide)) (LY.k1262 L0) (by decide) rfl rfl) ?_
  refine XS.go (s_iconst (v := 1) rfl rfl) ?_
  refine XS.go (s_isub rfl) ?_
  by_cases qk1 : 0 ≤ ((hi h 1262 87) - 1) ∧ ((hi h 1262 87) - 1) < nI 100
  rotate_left
  · rw [if_neg qk1] at hf; cases hf
  rw [if_pos qk1] at hf
  refine XS.go (s_ialde rfl (LY.lt L0 (by decide)) (LY.k1315 L0) (inLit (LY.n1315 L0) qk1.1 qk1.2 (by decide)) rfl) ?_
  cases hf
  exact XR.reti rfl rfl (fun hret => ⟨_, hret, ⟨rfl, rfl⟩, L0⟩)
def f_m_told (a0 : Int32) (h : XH) : Option (Int32 × XH) := (if ¬ a0 = 3 then (if ¬ a0 = 2 then (if ¬ a0 = 5 then (some (4, h)) else (some (3, h))) else (some (2, h))) else (some (1, h)))
set_option maxRecDepth 20000 in
theorem kf_m_told {l : Launch} {G : XG} {d : Nat} {a0 : Int32} {h : XH} {r : Int32 × XH} (L0 : LY h) (hf : f_m_told a0 h = some r) : XC l G xEX12_told d [.int a0] h (fun v h2 => (h2 = r.2 ∧ v = some (.int r.1)) ∧ LY r.2) := by
  refine XC.stat xsX12_told (Nat.le_of_ble_eq_true rfl) ?_
  unfold f_m_told at hf
  refine XS.go (s_iloadn rfl rfl rfl) ?_
  refine XS.go (s_iconst (v := 3) rfl rfl) ?_
  refine r_icmp_ne (tgt := 9) rfl rfl (fun qc1 => ?_) (fun qc1 => ?_)
  · rw [if_pos qc1] at hf
    refine XS.go (s_iloadn rfl rfl rfl) ?_
    refine XS.go (s_iconst (v := 2) rfl rfl) ?_
    refine r_icmp_ne (tgt := 18) rfl rfl (fun qc2 => ?_) (fun qc2 => ?_)
    · rw [if_pos qc2] at hf
      refine XS.go (s_iloadn rfl rfl rfl) ?_
      refine XS.go (s_iconst (v := 5) rfl rfl) ?_
      refine r_icmp_ne (tgt := 27) rfl rfl (fun qc3 => ?_) (fun qc3 => ?_)
      · rw [if_pos qc3] at hf
        refine XS.go (s_iconst (v := 4) rfl rfl) ?_
        cases hf
        exact XR.reti rfl rfl (fun hret => ⟨_, hret, ⟨rfl, rfl⟩, L0⟩)
      · rw [if_neg qc3] at hf
        refine XS.go (s_iconst (v := 3) rfl rfl) ?_
        refine XS.go (s_goto (tgt := 28) rfl rfl) ?_
        cases hf
        exact XR.reti rfl rfl (fun hret => ⟨_, hret, ⟨rfl, rfl⟩, L0⟩)
    · rw [if_neg qc2] at hf
      refine XS.go (s_iconst (v := 2) rfl rfl) ?_
      refine XS.go (s_goto (tgt := 28) rfl rfl) ?_
      cases hf
      exact XR.reti rfl rfl (fun hret => ⟨_, hret, ⟨rfl, rfl⟩, L0⟩)
  · rw [if_neg qc1] at hf
    refine XS.go (s_iconst (v := 1) rfl rfl) ?_
    refine XS.go (s_goto (tgt := 28) rfl rfl) ?_
    cases hf
    exact XR.reti rfl rfl (fun hret => ⟨_, hret, ⟨rfl, rfl⟩, L0⟩)
def f_m_list (a0 : Int32) (h : XH) : Option (Int32 × XH) := (match f_m_number a0 4 h with | none => none | some r1 => (some ((a0 - (Int64.toInt32 r1.1)), r1.2)))
set_option maxRecDepth 20000 in
theorem kf_m_list {l : Launch} {G : XG} {d : Nat} {a0 : Int32} {h : XH} {r : Int32 × XH} (L0 : LY h) (hf : f_m_list a0 h = some r) : XC l G xEX12_list (d + 1) [.ref 1262, .int a0] h (fun v h2 => (h2 = r.2 ∧ v = some (.int r.1)) ∧ LY r.2) := by
  refine XC.virt xvX12_list (Nat.le_of_ble_eq_true rfl) ?_
  unfold f_m_list at hf
  refine XS.go (s_iloadn rfl rfl rfl) ?_
  refine XS.go (s_aloadn rfl rfl rfl) ?_
  refine XS.go (s_iloadn rfl rfl rfl) ?_
  refine XS.go (s_iconst (v := 4) rfl rfl) ?_
  rcases e2 : f_m_number a0 4 h with _ | r1
  · rw [e2] at hf; cases hf
  rw [e2] at hf; dsimp only at hf
  refine r_callv rfl xvX12_number xm12_467 (kf_m_number (d := d) L0 e2) (LY.lt L0 (by decide)) (LY.k1262 L0) (by decide) rfl rfl (by omega) (by decide) (Nat.le_of_ble_eq_true rfl) ?_
  rintro _ _ ⟨⟨rfl, rfl⟩, L3⟩
  refine XS.go (s_l2i rfl) ?_
  refine XS.go (s_isub rfl) ?_
  cases hf
  exact XR.reti rfl rfl (fun hret => ⟨_, hret, ⟨rfl, rfl⟩, L3⟩)
def f_m_stored (a0 : Int32) (h : XH) : Option (Int32 × XH) := (match f_m_place h with | none => none | some r1 => (match f_m_list r1.1 r1.2 with | none => none | some r4 => (match f_m_far r4.1 a0 r4.2 with | none => none | some r7 => (if ¬ r7.1 = 0 then (some ((r1.1 + r7.1), r7.2)) else (some ((-1), r7.2))))))
set_option maxRecDepth 20000 in
theorem kf_m_stored {l : Launch} {G : XG} {d : Nat} {a0 : Int32} {h : XH} {r : Int32 × XH} (L0 : LY h) (hf : f_m_stored a0 h = some r) : XC l G xEX12_stored (d + 2) [.ref 1262, .int a0] h (fun v h2 => (h2 = r.2 ∧ v = some (.int r.1)) ∧ LY r.2) := by
  refine XC.virt xvX12_stored (Nat.le_of_ble_eq_true rfl) ?_
  unfold f_m_stored at hf
  refine XS.go (s_aloadn rfl rfl rfl) ?_
  rcases e2 : f_m_place h with _ | r1
  · rw [e2] at hf; cases hf
  rw [e2] at hf; dsimp only at hf
  refine r_callv rfl xvX12_place xm12_521 (kf_m_place (d := d) L0 e2) (LY.lt L0 (by decide)) (LY.k1262 L0) (by decide) rfl rfl (by omega) (by decide) (Nat.le_of_ble_eq_true rfl) ?_
  rintro _ _ ⟨⟨rfl, rfl⟩, L3⟩
  refine XS.go (s_istoren rfl rfl (Nat.le_of_ble_eq_true rfl)) ?_
  refine XS.go (s_aloadn rfl rfl rfl) ?_
  refine XS.go (s_aloadn rfl rfl rfl) ?_
  refine XS.go (s_iloadn rfl rfl rfl) ?_
  rcases e5 : f_m_list r1.1 r1.2 with _ | r4
  · rw [e5] at hf; cases hf
  rw [e5] at hf; dsimp only at hf
  refine r_callv rfl xvX12_list xm12_530 (kf_m_list (d := d) L3 e5) (LY.lt L3 (by decide)) (LY.k1262 L3) (by decide) rfl rfl (by omega) (by decide) (Nat.le_of_ble_eq_true rfl) ?_
  rintro _ _ ⟨⟨rfl, rfl⟩, L6⟩
  refine XS.go (s_iloadn rfl rfl rfl) ?_
  rcases e8 : f_m_far r4.1 a0 r4.2 with _ | r7
  · rw [e8] at hf; cases hf
  rw [e8] at hf; dsimp only at hf
  refine r_callv rfl xvX12_far xm12_484 (kf_m_far (d := d) L6 e8) (LY.lt L6 (by decide)) (LY.k1262 L6) (by decide) rfl rfl (by omega) (by decide) (Nat.le_of_ble_eq_true rfl) ?_
  rintro _ _ ⟨⟨rfl, rfl⟩, L9⟩
  refine XS.go (s_istoren rfl rfl (Nat.le_of_ble_eq_true rfl)) ?_
  refine XS.go (s_iloadn rfl rfl rfl) ?_
  refine r_if_ne (tgt := 24) rfl rfl (fun qc10 => ?_) (fun qc10 => ?_)
  · rw [if_pos qc10] at hf
    refine XS.go (s_iloadn rfl rfl rfl) ?_
    refine XS.go (s_iloadn rfl rfl rfl) ?_
    refine XS.go (s_iadd rfl) ?_
    cases hf
    exact XR.reti rfl rfl (fun hret => ⟨_, hret, ⟨rfl, rfl⟩, L9⟩)
  · rw [if_neg qc10] at hf
    refine XS.go (s_iconst (v := (-1)) rfl rfl) ?_
    refine XS.go (s_goto (tgt := 27) rfl rfl) ?_
    cases hf
    exact XR.reti rfl rfl (fun hret => ⟨_, hret, ⟨rfl, rfl⟩, L9⟩)
def f_m_row (a0 : Int32) (h : XH) : Option (Int32 × XH) := (match f_m_sort h with | none => none | some r1 => (if ¬ r1.1 = 3 then (match f_m_of r1.2 with | none => none | some r5 => (some (((12 * r5.1) + a0), r5.2))) else (match f_m_of r1.2 with | none => none | some r8 => (some (((16 * r8.1) + a0), r8.2)))))
set_option maxRecDepth 20000 in
theorem kf_m_row {l : Launch} {G : XG} {d : Nat} {a0 : Int32} {h : XH} {r : Int32 × XH} (L0 : LY h) (hf : f_m_row a0 h = some r) : XC l G xEX12_row (d + 1) [.ref 1262, .int a0] h (fun v h2 => (h2 = r.2 ∧ v = some (.int r.1)) ∧ LY r.2) := by
  refine XC.virt xvX12_row (Nat.le_of_ble_eq_true rfl) ?_
  unfold f_m_row at hf
  refine XS.go (s_aloadn rfl rfl rfl) ?_
  rcases e2 : f_m_sort h with _ | r1
  · rw [e2] at hf; cases hf
  rw [e2] at hf; dsimp only at hf
  refine r_callv rfl xvX12_sort xm12_515 (kf_m_sort (d := d) L0 e2) (LY.lt L0 (by decide)) (LY.k1262 L0) (by decide) rfl rfl (by omega) (by decide) (Nat.le_of_ble_eq_true rfl) ?_
  rintro _ _ ⟨⟨rfl, rfl⟩, L3⟩
  refine XS.go (s_iconst (v := 3) rfl rfl) ?_
  refine r_icmp_ne (tgt := 20) rfl rfl (fun qc4 => ?_) (fun qc4 => ?_)
  · rw [if_pos qc4] at hf
    refine XS.go (s_bipush (v := 12) rfl rfl) ?_
    refine XS.go (s_aloadn rfl rfl rfl) ?_
    rcases e6 : f_m_of r1.2 with _ | r5
    · rw [e6] at hf; cases hf
    rw [e6] at hf; dsimp only at hf
    refine r_callv rfl xvX12_of xm12_518 (kf_m_of (d := d) L3 e6) (LY.lt L3 (by decide)) (LY.k1262 L3) (by decide) rfl rfl (by omega) (by decide) (Nat.le_of_ble_eq_true rfl) ?_
    rintro _ _ ⟨⟨rfl, rfl⟩, L7⟩
    refine XS.go (s_imul rfl) ?_
    refine XS.go (s_iloadn rfl rfl rfl) ?_
    refine XS.go (s_iadd rfl) ?_
    cases hf
    exact XR.reti rfl rfl (fun hret => ⟨_, hret, ⟨rfl, rfl⟩, L7⟩)
  · rw [if_neg qc4] at hf
    refine XS.go (s_bipush (v := 16) rfl rfl) ?_
    refine XS.go (s_aloadn rfl rfl rfl) ?_
    rcases e9 : f_m_of r1.2 with _ | r8
    · rw [e9] at hf; cases hf
    rw [e9] at hf; dsimp only at hf
    refine r_callv rfl xvX12_of xm12_518 (kf_m_of (d := d) L3 e9) (LY.lt L3 (by decide)) (LY.k1262 L3) (by decide) rfl rfl (by omega) (by decide) (Nat.le_of_ble_eq_true rfl) ?_
    rintro _ _ ⟨⟨rfl, rfl⟩, L10⟩
    refine XS.go (s_imul rfl) ?_
    refine XS.go (s_iloadn rfl rfl rfl) ?_
    refine XS.go (s_iadd rfl) ?_
    refine XS.go (s_goto (tgt := 29) rfl rfl) ?_
    cases hf
    exact XR.reti rfl rfl (fun hret => ⟨_, hret, ⟨rfl, rfl⟩, L10⟩)
def f_m_partSort (a0 : Int32) (h : XH) : Option (Int32 × XH) := (match f_m_sort h with | none => none | some r1 => (if r1.1 = 2 then (match f_m_row a0 r1.2 with | none => none | some r5 => (if 0 ≤ r5.1 ∧ r5.1 < nI 144 then (some ((hi r5.2 1277 (Int32.toNatClampNeg r5.1)), r5.2)) else none)) else (if r1.1 = 3 then (match f_m_row a0 r1.2 with | none => none | some r9 => (if 0 ≤ r9.1 ∧ r9.1 < nI 256 then (some ((hi r9.2 1286 (Int32.toNatClampNeg r9.1)), r9.2)) else none)) else (if r1.1 = 4 then (some (0, r1.2)) else (if r1.1 = 5 then (if 0 ≤ ((hi r1.2 1262 87) - 1) ∧ ((hi r1.2 1262 87) - 1) < nI 100 then (some ((hi r1.2 1314 (Int32.toNatClampNeg ((hi r1.2 1262 87) - 1))), r1.2)) else none) else (some (0, r1.2)))))))
set_option maxRecDepth 20000 in
theorem kf_m_partSort {l : Launch} {G : XG} {d : Nat} {a0 : Int32} {h : XH} {r : Int32 × XH} (L0 : LY h) (hf : f_m_partSort a0 h = some r) : XC l G xEX12_partSort (d + 2) [.ref 1262, .int a0] h (fun v h2 => (h2 = r.2 ∧ v = some (.int r.1)) ∧ LY r.2) := by
  refine XC.virt xvX12_partSort (Nat.le_of_ble_eq_true rfl) ?_
  unfold f_m_partSort at hf
  refine XS.go (s_aloadn rfl rfl rfl) ?_
  rcases e2 : f_m_sort h with _ | r1
  · rw [e2] at hf; cases hf
  rw [e2] at hf; dsimp only at hf
  refine r_callv rfl xvX12_sort xm12_515 (kf_m_sort (d := d) L0 e2) (LY.lt L0 (by decide)) (LY.k1262 L0) (by decide) rfl rfl (by omega) (by decide) (Nat.le_of_ble_eq_true rfl) ?_
  rintro _ _ ⟨⟨rfl, rfl⟩, L3⟩
  by_cases qs4_0 : r1.1 = 2
  · rw [if_pos qs4_0] at hf
    refine XS.go (s_tswI (tgt := 47) rfl (by rw [qs4_0]; decide) (by rw [qs4_0]; decide) (by rw [qs4_0]; rfl) rfl) ?_
    refine XS.go (s_aloadn rfl rfl rfl) ?_
    refine XS.go (s_getr rfl xf12_52 (LY.lt L3 (by decide)) (LY.k1262 L3) (by decide) rfl (LY.r1262_25 L3)) ?_
    refine XS.go (s_aloadn rfl rfl rfl) ?_
    refine XS.go (s_iloadn rfl rfl rfl) ?_
    rcases e6 : f_m_row a0 r1.2 with _ | r5
    · rw [e6] at hf; cases hf
    rw [e6] at hf; dsimp only at hf
    refine r_callv rfl xvX12_row xm12_532 (kf_m_row (d := d) L3 e6) (LY.lt L3 (by decide)) (LY.k1262 L3) (by decide) rfl rfl (by omega) (by decide) (Nat.le_of_ble_eq_true rfl) ?_
    rintro _ _ ⟨⟨rfl, rfl⟩, L7⟩
    by_cases qk8 : 0 ≤ r5.1 ∧ r5.1 < nI 144
    rotate_left
    · rw [if_neg qk8] at hf; cases hf
    rw [if_pos qk8] at hf
    refine XS.go (s_ialde rfl (LY.lt L7 (by decide)) (LY.k1277 L7) (inLit (LY.n1277 L7) qk8.1 qk8.2 (by decide)) rfl) ?_
    cases hf
    exact XR.reti rfl rfl (fun hret => ⟨_, hret, ⟨rfl, rfl⟩, L7⟩)
  rw [if_neg qs4_0] at hf
  by_cases qs4_1 : r1.1 = 3
  · rw [if_pos qs4_1] at hf
    refine XS.go (s_tswI (tgt := 36) rfl (by rw [qs4_1]; decide) (by rw [qs4_1]; decide) (by rw [qs4_1]; rfl) rfl) ?_
    refine XS.go (s_aloadn rfl rfl rfl) ?_
    refine XS.go (s_getr rfl xf12_79 (LY.lt L3 (by decide)) (LY.k1262 L3) (by decide) rfl (LY.r1262_35 L3)) ?_
    refine XS.go (s_aloadn rfl rfl rfl) ?_
    refine XS.go (s_iloadn rfl rfl rfl) ?_
    rcases e10 : f_m_row a0 r1.2 with _ | r9
    · rw [e10] at hf; cases hf
    rw [e10] at hf; dsimp only at hf
    refine r_callv rfl xvX12_row xm12_532 (kf_m_row (d := d) L3 e10) (LY.lt L3 (by decide)) (LY.k1262 L3) (by decide) rfl rfl (by omega) (by decide) (Nat.le_of_ble_eq_true rfl) ?_
    rintro _ _ ⟨⟨rfl, rfl⟩, L11⟩
    by_cases qk12 : 0 ≤ r9.1 ∧ r9.1 < nI 256
    rotate_left
    · rw [if_neg qk12] at hf; cases hf
    rw [if_pos qk12] at hf
    refine XS.go (s_ialde rfl (LY.lt L11 (by decide)) (LY.k1286 L11) (inLit (LY.n1286 L11) qk12.1 qk12.2 (by decide)) rfl) ?_
    cases hf
    exact XR.reti rfl rfl (fun hret => ⟨_, hret, ⟨rfl, rfl⟩, L11⟩)
  rw [if_neg qs4_1] at hf
  by_cases qs4_2 : r1.1 = 4
  · rw [if_pos qs4_2] at hf
    refine XS.go (s_tswI (tgt := 70) rfl (by rw [qs4_2]; decide) (by rw [qs4_2]; decide) (by rw [qs4_2]; rfl) rfl) ?_
    refine XS.go (s_iconst (v := 0) rfl rfl) ?_
    cases hf
    exact XR.reti rfl rfl (fun hret => ⟨_, hret, ⟨rfl, rfl⟩, L3⟩)
  rw [if_neg qs4_2] at hf
  by_cases qs4_3 : r1.1 = 5
  · rw [if_pos qs4_3] at hf
    refine XS.go (s_tswI (tgt := 58) rfl (by rw [qs4_3]; decide) (by rw [qs4_3]; decide) (by rw [qs4_3]; rfl) rfl) ?_
    refine XS.go (s_aloadn rfl rfl rfl) ?_
    refine XS.go (s_getr rfl xf12_169 (LY.lt L3 (by decide)) (LY.k1262 L3) (by decide) rfl (LY.r1262_85 L3)) ?_
    refine XS.go (s_aloadn rfl rfl rfl) ?_
    refine XS.go (s_getie rfl xf12_500 (LY.lt L3 (by decide)) (LY.k1262 L3) (by decide) rfl rfl) ?_
    refine XS.go (s_iconst (v := 1) rfl rfl) ?_
    refine XS.go (s_isub rfl) ?_
    by_cases qk13 : 0 ≤ ((hi r1.2 1262 87) - 1) ∧ ((hi r1.2 1262 87) - 1) < nI 100
    rotate_left
    · rw [if_neg qk13] at hf; cases hf
    rw [if_pos qk13] at hf
    refine XS.go (s_ialde rfl (LY.lt L3 (by decide)) (LY.k1314 L3) (inLit (LY.n1314 L3) qk13.1 qk13.2 (by decide)) rfl) ?_
    cases hf
    exact XR.reti rfl rfl (fun hret => ⟨_, hret, ⟨rfl, rfl⟩, L3⟩)
  rw [if_neg qs4_3] at hf
  have qs4_o : (r1.1).toInt < 2 ∨ 5 < (r1.1).toInt := by
    refine tsw_out 2 5 (by decide) ?_
    intro k h1 h2
    have z : k = 2 ∨ k = 3 ∨ k = 4 ∨ k = 5 := by omega
    rcases z with rfl | rfl | rfl | rfl
    · exact qs4_0
    · exact qs4_1
    · exact qs4_2
    · exact qs4_3
  refine XS.go (s_tswO (tgt := 70) rfl qs4_o rfl) ?_
  refine XS.go (s_iconst (v := 0) rfl rfl) ?_
  cases hf
  exact XR.reti rfl rfl (fun hret => ⟨_, hret, ⟨rfl, rfl⟩, L3⟩)
def f_m_partOf (a0 : Int32) (h : XH) : Option (Int32 × XH) := (match f_m_sort h with | none => none | some r1 => (if r1.1 = 2 then (match f_m_row a0 r1.2 with | none => none | some r5 => (if 0 ≤ r5.1 ∧ r5.1 < nI 144 then (some ((hi r5.2 1278 (Int32.toNatClampNeg r5.1)), r5.2)) else none)) else (if r1.1 = 3 then (match f_m_row a0 r1.2 with | none => none | some r9 => (if 0 ≤ r9.1 ∧ r9.1 < nI 256 then (some ((hi r9.2 1287 (Int32.toNatClampNeg r9.1)), r9.2)) else none)) else (if r1.1 = 4 then (some (2, r1.2)) else (if r1.1 = 5 then (match f_m_of r1.2 with | none => none | some r13 => (some (r13.1, r13.2))) else (some (2, r1.2)))))))
set_option maxRecDepth 20000 in
theorem kf_m_partOf {l : Launch} {G : XG} {d : Nat} {a0 : Int32} {h : XH} {r : Int32 × XH} (L0 : LY h) (hf : f_m_partOf a0 h = some r) : XC l G xEX12_partOf (d + 2) [.ref 1262, .int a0] h (fun v h2 => (h2 = r.2 ∧ v = some (.int r.1)) ∧ LY r.2) := by
  refine XC.virt xvX12_partOf (Nat.le_of_ble_eq_true rfl) ?_
  unfold f_m_partOf at hf
  refine XS.go (s_aloadn rfl rfl rfl) ?_
  rcases e2 : f_m_sort h with _ | r1
  · rw [e2] at hf; cases hf
  rw [e2] at hf; dsimp only at hf
  refine r_callv rfl xvX12_sort xm12_515 (kf_m_sort (d := d) L0 e2) (LY.lt L0 (by decide)) (LY.k1262 L0) (by decide) rfl rfl (by omega) (by decide) (Nat.le_of_ble_eq_true rfl) ?_
  rintro _ _ ⟨⟨rfl, rfl⟩, L3⟩
  by_cases qs4_0 : r1.1 = 2
  · rw [if_pos qs4_0] at hf
    refine XS.go (s_tswI (tgt := 47) rfl (by rw [qs4_0]; decide) (by rw [qs4_0]; decide) (by rw [qs4_0]; rfl) rfl) ?_
    refine XS.go (s_aloadn rfl rfl rfl) ?_
    refine XS.go (s_getr rfl xf12_55 (LY.lt L3 (by decide)) (LY.k1262 L3) (by decide) rfl (LY.r1262_26 L3)) ?_
    refine XS.go (s_aloadn rfl rfl rfl) ?_
    refine XS.go (s_iloadn rfl rfl rfl) ?_
    rcases e6 : f_m_row a0 r1.2 with _ | r5
    · rw [e6] at hf; cases hf
    rw [e6] at hf; dsimp only at hf
    refine r_callv rfl xvX12_row xm12_532 (kf_m_row (d := d) L3 e6) (LY.lt L3 (by decide)) (LY.k1262 L3) (by decide) rfl rfl (by omega) (by decide) (Nat.le_of_ble_eq_true rfl) ?_
    rintro _ _ ⟨⟨rfl, rfl⟩, L7⟩
    by_cases qk8 : 0 ≤ r5.1 ∧ r5.1 < nI 144
    rotate_left
    · rw [if_neg qk8] at hf; cases hf
    rw [if_pos qk8] at hf
    refine XS.go (s_ialde rfl (LY.lt L7 (by decide)) (LY.k1278 L7) (inLit (LY.n1278 L7) qk8.1 qk8.2 (by decide)) rfl) ?_
    cases hf
    exact XR.reti rfl rfl (fun hret => ⟨_, hret, ⟨rfl, rfl⟩, L7⟩)
  rw [if_neg qs4_0] at hf
  by_cases qs4_1 : r1.1 = 3
  · rw [if_pos qs4_1] at hf
    refine XS.go (s_tswI (tgt := 36) rfl (by rw [qs4_1]; decide) (by rw [qs4_1]; decide) (by rw [qs4_1]; rfl) rfl) ?_
    refine XS.go (s_aloadn rfl rfl rfl) ?_
    refine XS.go (s_getr rfl xf12_82 (LY.lt L3 (by decide)) (LY.k1262 L3) (by decide) rfl (LY.r1262_36 L3)) ?_
    refine XS.go (s_aloadn rfl rfl rfl) ?_
    refine XS.go (s_iloadn rfl rfl rfl) ?_
    rcases e10 : f_m_row a0 r1.2 with _ | r9
    · rw [e10] at hf; cases hf
    rw [e10] at hf; dsimp only at hf
    refine r_callv rfl xvX12_row xm12_532 (kf_m_row (d := d) L3 e10) (LY.lt L3 (by decide)) (LY.k1262 L3) (by decide) rfl rfl (by omega) (by decide) (Nat.le_of_ble_eq_true rfl) ?_
    rintro _ _ ⟨⟨rfl, rfl⟩, L11⟩
    by_cases qk12 : 0 ≤ r9.1 ∧ r9.1 < nI 256
    rotate_left
    · rw [if_neg qk12] at hf; cases hf
    rw [if_pos qk12] at hf
    refine XS.go (s_ialde rfl (LY.lt L11 (by decide)) (LY.k1287 L11) (inLit (LY.n1287 L11) qk12.1 qk12.2 (by decide)) rfl) ?_
    cases hf
    exact XR.reti rfl rfl (fun hret => ⟨_, hret, ⟨rfl, rfl⟩, L11⟩)
  rw [if_neg qs4_1] at hf
  by_cases qs4_2 : r1.1 = 4
  · rw [if_pos qs4_2] at hf
    refine XS.go (s_tswI (tgt := 63) rfl (by rw [qs4_2]; decide) (by rw [qs4_2]; decide) (by rw [qs4_2]; rfl) rfl) ?_
    refine XS.go (s_iconst (v := 2) rfl rfl) ?_
    cases hf
    exact XR.reti rfl rfl (fun hret => ⟨_, hret, ⟨rfl, rfl⟩, L3⟩)
  rw [if_neg qs4_2] at hf
  by_cases qs4_3 : r1.1 = 5
  · rw [if_pos qs4_3] at hf
    refine XS.go (s_tswI (tgt := 58) rfl (by rw [qs4_3]; decide) (by rw [qs4_3]; decide) (by rw [qs4_3]; rfl) rfl) ?_
    refine XS.go (s_aloadn rfl rfl rfl) ?_
    rcases e14 : f_m_of r1.2 with _ | r13
    · rw [e14] at hf; cases hf
    rw [e14] at hf; dsimp only at hf
    refine r_callv rfl xvX12_of xm12_518 (kf_m_of (d := d) L3 e14) (LY.lt L3 (by decide)) (LY.k1262 L3) (by decide) rfl rfl (by omega) (by decide) (Nat.le_of_ble_eq_true rfl) ?_
    rintro _ _ ⟨⟨rfl, rfl⟩, L15⟩
    cases hf
    exact XR.reti rfl rfl (fun hret => ⟨_, hret, ⟨rfl, rfl⟩, L15⟩)
  rw [if_neg qs4_3] at hf
  have qs4_o : (r1.1).toInt < 2 ∨ 5 < (r1.1).toInt := by
    refine tsw_out 2 5 (by decide) ?_
    intro k h1 h2
    have z : k = 2 ∨ k = 3 ∨ k = 4 ∨ k = 5 := by omega
    rcases z with rfl | rfl | rfl | rfl
    · exact qs4_0
    · exact qs4_1
    · exact qs4_2
    · exact qs4_3
  refine XS.go (s_tswO (tgt := 63) rfl qs4_o rfl) ?_
  refine XS.go (s_iconst (v := 2) rfl rfl) ?_
  cases hf
  exact XR.reti rfl rfl (fun hret => ⟨_, hret, ⟨rfl, rfl⟩, L3⟩)
def b_m_partAt_123 (x1 : Int32) (h : XH) : Option (Int32 × XH) := (match f_m_place h with | none => none | some r1 => (some (((r1.1 + 4) + x1), r1.2)))
set_option maxRecDepth 20000 in
theorem kb_m_partAt_123 {l : Launch} {G : XG} {d : Nat} {x1 : Int32} {h : XH} {r : Int32 × XH} (L0 : LY h) (hf : b_m_partAt_123 x1 h = some r) : XR l G xEX12_partAt (d + 3) (123, [some (.ref 1262), some (.int x1), none, none], [], h) (fun C => ∃ v, xRet xEX12_partAt C v ∧ (C.2.2.2 = r.2 ∧ v = some (.int r.1)) ∧ LY r.2) := by
  unfold b_m_partAt_123 at hf
  refine XS.go (s_aloadn rfl rfl rfl) ?_
  rcases e2 : f_m_place h with _ | r1
  · rw [e2] at hf; cases hf
  rw [e2] at hf; dsimp only at hf
  refine r_callv rfl xvX12_place xm12_521 (kf_m_place (d := d) L0 e2) (LY.lt L0 (by decide)) (LY.k1262 L0) (by decide) rfl rfl (by omega) (by decide) (Nat.le_of_ble_eq_true rfl) ?_
  rintro _ _ ⟨⟨rfl, rfl⟩, L3⟩
  refine XS.go (s_iconst (v := 4) rfl rfl) ?_
  refine XS.go (s_iadd rfl) ?_
  refine XS.go (s_iloadn rfl rfl rfl) ?_
  refine XS.go (s_iadd rfl) ?_
  cases hf
  exact XR.reti rfl rfl (fun hret => ⟨_, hret, ⟨rfl, rfl⟩, L3⟩)
def b_m_partAt_111 (x1 : Int32) (y0 : Int32) (h : XH) : Option (Int32 × XH) := (match f_m_place h with | none => none | some r4 => (some (((r4.1 + 4) + (y0 * x1)), r4.2)))
set_option maxRecDepth 20000 in
theorem kb_m_partAt_111 {l : Launch} {G : XG} {d : Nat} {x1 : Int32} {y0 : Int32} {h : XH} {r : Int32 × XH} (L0 : LY h) (hf : b_m_partAt_111 x1 y0 h = some r) : XR l G xEX12_partAt (d + 3) (111, [some (.ref 1262), some (.int x1), none, none], [(.int y0)], h) (fun C => ∃ v, xRet xEX12_partAt C v ∧ (C.2.2.2 = r.2 ∧ v = some (.int r.1)) ∧ LY r.2) := by
  unfold b_m_partAt_111 at hf
  refine XS.go (s_istoren rfl rfl (Nat.le_of_ble_eq_true rfl)) ?_
  refine XS.go (s_aloadn rfl rfl rfl) ?_
  rcases e5 : f_m_place h with _ | r4
  · rw [e5] at hf; cases hf
  rw [e5] at hf; dsimp only at hf
  refine r_callv rfl xvX12_place xm12_521 (kf_m_place (d := d) L0 e5) (LY.lt L0 (by decide)) (LY.k1262 L0) (by decide) rfl rfl (by omega) (by decide) (Nat.le_of_ble_eq_true rfl) ?_
  rintro _ _ ⟨⟨rfl, rfl⟩, L6⟩
  refine XS.go (s_iconst (v := 4) rfl rfl) ?_
  refine XS.go (s_iadd rfl) ?_
  refine XS.go (s_iloadn rfl rfl rfl) ?_
  refine XS.go (s_iloadn rfl rfl rfl) ?_
  refine XS.go (s_imul rfl) ?_
  refine XS.go (s_iadd rfl) ?_
  cases hf
  exact XR.reti rfl rfl (fun hret => ⟨_, hret, ⟨rfl, rfl⟩, L6⟩)
def f_m_partAt (a0 : Int32) (h : XH) : Option (Int32 × XH) := (match f_m_sort h with | none => none | some r7 => (if r7.1 = 2 then (match f_m_place r7.2 with | none => none | some r11 => (match f_m_row a0 r11.2 with | none => none | some r14 => (if 0 ≤ r14.1 ∧ r14.1 < nI 144 then (some ((r11.1 + (hi r14.2 1279 (Int32.toNatClampNeg r14.1))), r14.2)) else none))) else (if r7.1 = 3 then (match f_m_row a0 r7.2 with | none => none | some r18 => (if 0 ≤ r18.1 ∧ r18.1 < nI 256 then (match f_m_stored (hi r18.2 1289 (Int32.toNatClampNeg r18.1)) r18.2 with | none => none | some r22 => (some (r22.1, r22.2))) else none)) else (if r7.1 = 4 then (b_m_partAt_123 a0 r7.2) else (if r7.1 = 5 then (if 0 ≤ ((hi r7.2 1262 87) - 1) ∧ ((hi r7.2 1262 87) - 1) < nI 100 then (if ¬ (hi r7.2 1314 (Int32.toNatClampNeg ((hi r7.2 1262 87) - 1))) = 0 then (if ¬ (hi r7.2 1314 (Int32.toNatClampNeg ((hi r7.2 1262 87) - 1))) = 2 then (b_m_partAt_111 a0 4 r7.2) else (match f_m_of r7.2 with | none => none | some r28 => (if 0 ≤ r28.1 ∧ r28.1 < nI 12 then (b_m_partAt_111 a0 (hi r28.2 1274 (Int32.toNatClampNeg r28.1)) r28.2) else none))) else (match f_m_of r7.2 with | none => none | some r32 => (match f_m_bytesOf r32.1 r32.2 with | none => none | some r35 => (b_m_partAt_111 a0 r35.1 r35.2)))) else none) else (b_m_partAt_123 a0 r7.2))))))
set_option maxRecDepth 20000 in
theorem kf_m_partAt {l : Launch} {G : XG} {d : Nat} {a0 : Int32} {h : XH} {r : Int32 × XH} (L0 : LY h) (hf : f_m_partAt a0 h = some r) : XC l G xEX12_partAt (d + 3) [.ref 1262, .int a0] h (fun v h2 => (h2 = r.2 ∧ v = some (.int r.1)) ∧ LY r.2) := by
  refine XC.virt xvX12_partAt (Nat.le_of_ble_eq_true rfl) ?_
  unfold f_m_partAt at hf
  refine XS.go (s_aloadn rfl rfl rfl) ?_
  rcases e8 : f_m_sort h with _ | r7
  · rw [e8] at hf; cases hf
  rw [e8] at hf; dsimp only at hf
  refine r_callv rfl xvX12_sort xm12_515 (kf_m_sort (d := d) L0 e8) (LY.lt L0 (by decide)) (LY.k1262 L0) (by decide) rfl rfl (by omega) (by decide) (Nat.le_of_ble_eq_true rfl) ?_
  rintro _ _ ⟨⟨rfl, rfl⟩, L9⟩
  by_cases qs10_0 : r7.1 = 2
  · rw [if_pos qs10_0] at hf
    refine XS.go (s_tswI (tgt := 51) rfl (by rw [qs10_0]; decide) (by rw [qs10_0]; decide) (by rw [qs10_0]; rfl) rfl) ?_
    refine XS.go (s_aloadn rfl rfl rfl) ?_
    rcases e12 : f_m_place r7.2 with _ | r11
    · rw [e12] at hf; cases hf
    rw [e12] at hf; dsimp only at hf
    refine r_callv rfl xvX12_place xm12_521 (kf_m_place (d := d) L9 e12) (LY.lt L9 (by decide)) (LY.k1262 L9) (by decide) rfl rfl (by omega) (by decide) (Nat.le_of_ble_eq_true rfl) ?_
    rintro _ _ ⟨⟨rfl, rfl⟩, L13⟩
    refine XS.go (s_aloadn rfl rfl rfl) ?_
    refine XS.go (s_getr rfl xf12_58 (LY.lt L13 (by decide)) (LY.k1262 L13) (by decide) rfl (LY.r1262_27 L13)) ?_
    refine XS.go (s_aloadn rfl rfl rfl) ?_
    refine XS.go (s_iloadn rfl rfl rfl) ?_
    rcases e15 : f_m_row a0 r11.2 with _ | r14
    · rw [e15] at hf; cases hf
    rw [e15] at hf; dsimp only at hf
    refine r_callv rfl xvX12_row xm12_532 (kf_m_row (d := d) L13 e15) (LY.lt L13 (by decide)) (LY.k1262 L13) (by decide) rfl rfl (by omega) (by decide) (Nat.le_of_ble_eq_true rfl) ?_
    rintro _ _ ⟨⟨rfl, rfl⟩, L16⟩
    by_cases qk17 : 0 ≤ r14.1 ∧ r14.1 < nI 144
    rotate_left
    · rw [if_neg qk17] at hf; cases hf
    rw [if_pos qk17] at hf
    refine XS.go (s_ialde rfl (LY.lt L16 (by decide)) (LY.k1279 L16) (inLit (LY.n1279 L16) qk17.1 qk17.2 (by decide)) rfl) ?_
    refine XS.go (s_iadd rfl) ?_
    cases hf
    exact XR.reti rfl rfl (fun hret => ⟨_, hret, ⟨rfl, rfl⟩, L16⟩)
  rw [if_neg qs10_0] at hf
  by_cases qs10_1 : r7.1 = 3
  · rw [if_pos qs10_1] at hf
    refine XS.go (s_tswI (tgt := 36) rfl (by rw [qs10_1]; decide) (by rw [qs10_1]; decide) (by rw [qs10_1]; rfl) rfl) ?_
    refine XS.go (s_aloadn rfl rfl rfl) ?_
    refine XS.go (s_aloadn rfl rfl rfl) ?_
    refine XS.go (s_getr rfl xf12_88 (LY.lt L9 (by decide)) (LY.k1262 L9) (by decide) rfl (LY.r1262_38 L9)) ?_
    refine XS.go (s_aloadn rfl rfl rfl) ?_
    refine XS.go (s_iloadn rfl rfl rfl) ?_
    rcases e19 : f_m_row a0 r7.2 with _ | r18
    · rw [e19] at hf; cases hf
    rw [e19] at hf; dsimp only at hf
    refine r_callv rfl xvX12_row xm12_532 (kf_m_row (d := d) L9 e19) (LY.lt L9 (by decide)) (LY.k1262 L9) (by decide) rfl rfl (by omega) (by decide) (Nat.le_of_ble_eq_true rfl) ?_
    rintro _ _ ⟨⟨rfl, rfl⟩, L20⟩
    by_cases qk21 : 0 ≤ r18.1 ∧ r18.1 < nI 256
    rotate_left
    · rw [if_neg qk21] at hf; cases hf
    rw [if_pos qk21] at hf
    refine XS.go (s_ialde rfl (LY.lt L20 (by decide)) (LY.k1289 L20) (inLit (LY.n1289 L20) qk21.1 qk21.2 (by decide)) rfl) ?_
    rcases e23 : f_m_stored (hi r18.2 1289 (Int32.toNatClampNeg r18.1)) r18.2 with _ | r22
    · rw [e23] at hf; cases hf
    rw [e23] at hf; dsimp only at hf
    refine r_callv rfl xvX12_stored xm12_534 (kf_m_stored (d := d) L20 e23) (LY.lt L20 (by decide)) (LY.k1262 L20) (by decide) rfl rfl (by omega) (by decide) (Nat.le_of_ble_eq_true rfl) ?_
    rintro _ _ ⟨⟨rfl, rfl⟩, L24⟩
    cases hf
    exact XR.reti rfl rfl (fun hret => ⟨_, hret, ⟨rfl, rfl⟩, L24⟩)
  rw [if_neg qs10_1] at hf
  by_cases qs10_2 : r7.1 = 4
  · rw [if_pos qs10_2] at hf
    refine XS.go (s_tswI (tgt := 123) rfl (by rw [qs10_2]; decide) (by rw [qs10_2]; decide) (by rw [qs10_2]; rfl) rfl) ?_
    exact XR.forget (L2 := [some (.ref 1262), some (.int a0), none, none]) ⟨rfl, ⟨rfl, trivial⟩⟩ (kb_m_partAt_123 L9 hf)
  rw [if_neg qs10_2] at hf
  by_cases qs10_3 : r7.1 = 5
  · rw [if_pos qs10_3] at hf
    refine XS.go (s_tswI (tgt := 67) rfl (by rw [qs10_3]; decide) (by rw [qs10_3]; decide) (by rw [qs10_3]; rfl) rfl) ?_
    refine XS.go (s_aloadn rfl rfl rfl) ?_
    refine XS.go (s_getr rfl xf12_169 (LY.lt L9 (by decide)) (LY.k1262 L9) (by decide) rfl (LY.r1262_85 L9)) ?_
    refine XS.go (s_aloadn rfl rfl rfl) ?_
    refine XS.go (s_getie rfl xf12_500 (LY.lt L9 (by decide)) (LY.k1262 L9) (by decide) rfl rfl) ?_
    refine XS.go (s_iconst (v := 1) rfl rfl) ?_
    refine XS.go (s_isub rfl) ?_
    by_cases qk25 : 0 ≤ ((hi r7.2 1262 87) - 1) ∧ ((hi r7.2 1262 87) - 1) < nI 100
    rotate_left
    · rw [if_neg qk25] at hf; cases hf
    rw [if_pos qk25] at hf
    refine XS.go (s_ialde rfl (LY.lt L9 (by decide)) (LY.k1314 L9) (inLit (LY.n1314 L9) qk25.1 qk25.2 (by decide)) rfl) ?_
    refine XS.go (s_istoren rfl rfl (Nat.le_of_ble_eq_true rfl)) ?_
    refine XS.go (s_iloadn rfl rfl rfl) ?_
    refine r_if_ne (tgt := 93) rfl rfl (fun qc26 => ?_) (fun qc26 => ?_)
    · rw [if_pos qc26] at hf
      refine XS.go (s_iloadn rfl rfl rfl) ?_
      refine XS.go (s_iconst (v := 2) rfl rfl) ?_
      refine r_icmp_ne (tgt := 110) rfl rfl (fun qc27 => ?_) (fun qc27 => ?_)
      · rw [if_pos qc27] at hf
        refine XS.go (s_iconst (v := 4) rfl rfl) ?_
        exact XR.forget (L2 := [some (.ref 1262), some (.int a0), none, none]) ⟨rfl, ⟨rfl, trivial⟩⟩ (kb_m_partAt_111 L9 hf)
      · rw [if_neg qc27] at hf
        refine XS.go (s_aloadn rfl rfl rfl) ?_
        refine XS.go (s_getr rfl xf12_43 (LY.lt L9 (by decide)) (LY.k1262 L9) (by decide) rfl (LY.r1262_22 L9)) ?_
        refine XS.go (s_aloadn rfl rfl rfl) ?_
        rcases e29 : f_m_of r7.2 with _ | r28
        · rw [e29] at hf; cases hf
        rw [e29] at hf; dsimp only at hf
        refine r_callv rfl xvX12_of xm12_518 (kf_m_of (d := d) L9 e29) (LY.lt L9 (by decide)) (LY.k1262 L9) (by decide) rfl rfl (by omega) (by decide) (Nat.le_of_ble_eq_true rfl) ?_
        rintro _ _ ⟨⟨rfl, rfl⟩, L30⟩
        by_cases qk31 : 0 ≤ r28.1 ∧ r28.1 < nI 12
        rotate_left
        · rw [if_neg qk31] at hf; cases hf
        rw [if_pos qk31] at hf
        refine XS.go (s_ialde rfl (LY.lt L30 (by decide)) (LY.k1274 L30) (inLit (LY.n1274 L30) qk31.1 qk31.2 (by decide)) rfl) ?_
        refine XS.go (s_goto (tgt := 111) rfl rfl) ?_
        exact XR.forget (L2 := [some (.ref 1262), some (.int a0), none, none]) ⟨rfl, ⟨rfl, trivial⟩⟩ (kb_m_partAt_111 L30 hf)
    · rw [if_neg qc26] at hf
      refine XS.go (s_aloadn rfl rfl rfl) ?_
      rcases e33 : f_m_of r7.2 with _ | r32
      · rw [e33] at hf; cases hf
      rw [e33] at hf; dsimp only at hf
      refine r_callv rfl xvX12_of xm12_518 (kf_m_of (d := d) L9 e33) (LY.lt L9 (by decide)) (LY.k1262 L9) (by decide) rfl rfl (by omega) (by decide) (Nat.le_of_ble_eq_true rfl) ?_
      rintro _ _ ⟨⟨rfl, rfl⟩, L34⟩
      rcases e36 : f_m_bytesOf r32.1 r32.2 with _ | r35
      · rw [e36] at hf; cases hf
      rw [e36] at hf; dsimp only at hf
      refine r_calls rfl xsX12_bytesOf xm12_315 (kf_m_bytesOf (d := d) L34 e36) rfl rfl (by omega) (by decide) (Nat.le_of_ble_eq_true rfl) ?_
      rintro _ _ ⟨⟨rfl, rfl⟩, L37⟩
      refine XS.go (s_goto (tgt := 111) rfl rfl) ?_
      exact XR.forget (L2 := [some (.ref 1262), some (.int a0), none, none]) ⟨rfl, ⟨rfl, trivial⟩⟩ (kb_m_partAt_111 L37 hf)
  rw [if_neg qs10_3] at hf
  have qs10_o : (r7.1).toInt < 2 ∨ 5 < (r7.1).toInt := by
    refine tsw_out 2 5 (by decide) ?_
    intro k h1 h2
    have z : k = 2 ∨ k = 3 ∨ k = 4 ∨ k = 5 := by omega
    rcases z with rfl | rfl | rfl | rfl
    · exact qs10_0
    · exact qs10_1
    · exact qs10_2
    · exact qs10_3
  refine XS.go (s_tswO (tgt := 123) rfl qs10_o rfl) ?_
  exact XR.forget (L2 := [some (.ref 1262), some (.int a0), none, none]) ⟨rfl, ⟨rfl, trivial⟩⟩ (kb_m_partAt_123 L9 hf)
def f_m_which (a0 : Int32) (h : XH) : Option (Int32 × XH) := (match f_m_partAt a0 h with | none => none | some r1 => (if ¬ r1.1 = (-1) then (if 0 ≤ r1.1 ∧ r1.1 < nI 4000 then (some ((hi r1.2 1310 (Int32.toNatClampNeg r1.1)), r1.2)) else none) else (some (0, r1.2))))
set_option maxRecDepth 20000 in
theorem kf_m_which {l : Launch} {G : XG} {d : Nat} {a0 : Int32} {h : XH} {r : Int32 × XH} (L0 : LY h) (hf : f_m_which a0 h = some r) : XC l G xEX12_which (d + 4) [.ref 1262, .int a0] h (fun v h2 => (h2 = r.2 ∧ v = some (.int r.1)) ∧ LY r.2) := by
  refine XC.virt xvX12_which (Nat.le_of_ble_eq_true rfl) ?_
  unfold f_m_which at hf
  refine XS.go (s_aloadn rfl rfl rfl) ?_
  refine XS.go (s_iloadn rfl rfl rfl) ?_
  rcases e2 : f_m_partAt a0 h with _ | r1
  · rw [e2] at hf; cases hf
  rw [e2] at hf; dsimp only at hf
  refine r_callv rfl xvX12_partAt xm12_537 (kf_m_partAt (d := d) L0 e2) (LY.lt L0 (by decide)) (LY.k1262 L0) (by decide) rfl rfl (by omega) (by decide) (Nat.le_of_ble_eq_true rfl) ?_
  rintro _ _ ⟨⟨rfl, rfl⟩, L3⟩
  refine XS.go (s_istoren rfl rfl (Nat.le_of_ble_eq_true rfl)) ?_
  refine XS.go (s_iloadn rfl rfl rfl) ?_
  refine XS.go (s_iconst (v := (-1)) rfl rfl) ?_
  refine r_icmp_ne (tgt := 15) rfl rfl (fun qc4 => ?_) (fun qc4 => ?_)
  · rw [if_pos qc4] at hf
    refine XS.go (s_aloadn rfl rfl rfl) ?_
    refine XS.go (s_getr rfl xf12_157 (LY.lt L3 (by decide)) (LY.k1262 L3) (by decide) rfl (LY.r1262_74 L3)) ?_
    refine XS.go (s_iloadn rfl rfl rfl) ?_
    by_cases qk5 : 0 ≤ r1.1 ∧ r1.1 < nI 4000
    rotate_left
    · rw [if_neg qk5] at hf; cases hf
    rw [if_pos qk5] at hf
    refine XS.go (s_ialde rfl (LY.lt L3 (by decide)) (LY.k1310 L3) (inLit (LY.n1310 L3) qk5.1 qk5.2 (by decide)) rfl) ?_
    cases hf
    exact XR.reti rfl rfl (fun hret => ⟨_, hret, ⟨rfl, rfl⟩, L3⟩)
  · rw [if_neg qc4] at hf
    refine XS.go (s_iconst (v := 0) rfl rfl) ?_
    refine XS.go (s_goto (tgt := 21) rfl rfl) ?_
    cases hf
    exact XR.reti rfl rfl (fun hret => ⟨_, hret, ⟨rfl, rfl⟩, L3⟩)
def f_m_value (a0 : Int32) (a1 : Int32) (h : XH) : Option (Int64 × XH) := (match f_m_bytesOf a0 h with | none => none | some r1 => (match f_m_number a1 r1.1 r1.2 with | none => none | some r4 => (if a0 = 1 then (some ((Int32.toInt64 (Int8.toInt32 (Int32.toInt8 (Int64.toInt32 r4.1)))), r4.2)) else (if a0 = 2 then (some (r4.1, r4.2)) else (if a0 = 3 then (some ((Int32.toInt64 (Int16.toInt32 (Int32.toInt16 (Int64.toInt32 r4.1)))), r4.2)) else (if a0 = 4 then (some (r4.1, r4.2)) else (if a0 = 5 then (some ((Int32.toInt64 (Int64.toInt32 r4.1)), r4.2)) else (if a0 = 6 then (some (r4.1, r4.2)) else (if a0 = 7 then (some (r4.1, r4.2)) else (if a0 = 8 then (some (r4.1, r4.2)) else (if a0 = 9 then (some ((Int32.toInt64 (Int64.toInt32 r4.1)), r4.2)) else (some (r4.1, r4.2)))))))))))))
set_option maxRecDepth 20000 in
theorem kf_m_value {l : Launch} {G : XG} {d : Nat} {a0 : Int32} {a1 : Int32} {h : XH} {r : Int64 × XH} (L0 : LY h) (hf : f_m_value a0 a1 h = some r) : XC l G xEX12_value (d + 1) [.ref 1262, .int a0, .int a1] h (fun v h2 => (h2 = r.2 ∧ v = some (.long r.1)) ∧ LY r.2) := by
  refine XC.virt xvX12_value (Nat.le_of_ble_eq_true rfl) ?_
  unfold f_m_value at hf
  refine XS.go (s_aloadn rfl rfl rfl) ?_
  refine XS.go (s_iloadn rfl rfl rfl) ?_
  refine XS.go (s_iloadn rfl rfl rfl) ?_
  rcases e2 : f_m_bytesOf a0 h with _ | r1
  · rw [e2] at hf; cases hf
  rw [e2] at hf; dsimp only at hf
  refine r_calls rfl xsX12_bytesOf xm12_315 (kf_m_bytesOf (d := d) L0 e2) rfl rfl (by omega) (by decide) (Nat.le_of_ble_eq_true rfl) ?_
  rintro _ _ ⟨⟨rfl, rfl⟩, L3⟩
  rcases e5 : f_m_number a1 r1.1 r1.2 with _ | r4
  · rw [e5] at hf; cases hf
  rw [e5] at hf; dsimp only at hf
  refine r_callv rfl xvX12_number xm12_467 (kf_m_number (d := d) L3 e5) (LY.lt L3 (by decide)) (LY.k1262 L3) (by decide) rfl rfl (by omega) (by decide) (Nat.le_of_ble_eq_true rfl) ?_
  rintro _ _ ⟨⟨rfl, rfl⟩, L6⟩
  refine XS.go (s_lstoren rfl rfl (Nat.le_of_ble_eq_true rfl)) ?_
  refine XS.go (s_iloadn rfl rfl rfl) ?_
  by_cases qs7_0 : a0 = 1
  · rw [if_pos qs7_0] at hf
    refine XS.go (s_tswI (tgt := 60) rfl (by rw [qs7_0]; decide) (by rw [qs7_0]; decide) (by rw [qs7_0]; rfl) rfl) ?_
    refine XS.go (s_lloadn rfl rfl rfl) ?_
    refine XS.go (s_l2i rfl) ?_
    refine XS.go (s_i2b rfl) ?_
    refine XS.go (s_i2l rfl) ?_
    cases hf
    exact XR.retl rfl rfl (fun hret => ⟨_, hret, ⟨rfl, rfl⟩, L6⟩)
  rw [if_neg qs7_0] at hf
  by_cases qs7_1 : a0 = 2
  · rw [if_pos qs7_1] at hf
    refine XS.go (s_tswI (tgt := 78) rfl (by rw [qs7_1]; decide) (by rw [qs7_1]; decide) (by rw [qs7_1]; rfl) rfl) ?_
    refine XS.go (s_lloadn rfl rfl rfl) ?_
    cases hf
    exact XR.retl rfl rfl (fun hret => ⟨_, hret, ⟨rfl, rfl⟩, L6⟩)
  rw [if_neg qs7_1] at hf
  by_cases qs7_2 : a0 = 3
  · rw [if_pos qs7_2] at hf
    refine XS.go (s_tswI (tgt := 65) rfl (by rw [qs7_2]; decide) (by rw [qs7_2]; decide) (by rw [qs7_2]; rfl) rfl) ?_
    refine XS.go (s_lloadn rfl rfl rfl) ?_
    refine XS.go (s_l2i rfl) ?_
    refine XS.go (s_i2s rfl) ?_
    refine XS.go (s_i2l rfl) ?_
    cases hf
    exact XR.retl rfl rfl (fun hret => ⟨_, hret, ⟨rfl, rfl⟩, L6⟩)
  rw [if_neg qs7_2] at hf
  by_cases qs7_3 : a0 = 4
  · rw [if_pos qs7_3] at hf
    refine XS.go (s_tswI (tgt := 78) rfl (by rw [qs7_3]; decide) (by rw [qs7_3]; decide) (by rw [qs7_3]; rfl) rfl) ?_
    refine XS.go (s_lloadn rfl rfl rfl) ?_
    cases hf
    exact XR.retl rfl rfl (fun hret => ⟨_, hret, ⟨rfl, rfl⟩, L6⟩)
  rw [if_neg qs7_3] at hf
  by_cases qs7_4 : a0 = 5
  · rw [if_pos qs7_4] at hf
    refine XS.go (s_tswI (tgt := 70) rfl (by rw [qs7_4]; decide) (by rw [qs7_4]; decide) (by rw [qs7_4]; rfl) rfl) ?_
    refine XS.go (s_lloadn rfl rfl rfl) ?_
    refine XS.go (s_l2i rfl) ?_
    refine XS.go (s_i2l rfl) ?_
    cases hf
    exact XR.retl rfl rfl (fun hret => ⟨_, hret, ⟨rfl, rfl⟩, L6⟩)
  rw [if_neg qs7_4] at hf
  by_cases qs7_5 : a0 = 6
  · rw [if_pos qs7_5] at hf
    refine XS.go (s_tswI (tgt := 78) rfl (by rw [qs7_5]; decide) (by rw [qs7_5]; decide) (by rw [qs7_5]; rfl) rfl) ?_
    refine XS.go (s_lloadn rfl rfl rfl) ?_
    cases hf
    exact XR.retl rfl rfl (fun hret => ⟨_, hret, ⟨rfl, rfl⟩, L6⟩)
  rw [if_neg qs7_5] at hf
  by_cases qs7_6 : a0 = 7
  · rw [if_pos qs7_6] at hf
    refine XS.go (s_tswI (tgt := 78) rfl (by rw [qs7_6]; decide) (by rw [qs7_6]; decide) (by rw [qs7_6]; rfl) rfl) ?_
    refine XS.go (s_lloadn rfl rfl rfl) ?_
    cases hf
    exact XR.retl rfl rfl (fun hret => ⟨_, hret, ⟨rfl, rfl⟩, L6⟩)
  rw [if_neg qs7_6] at hf
  by_cases qs7_7 : a0 = 8
  · rw [if_pos qs7_7] at hf
    refine XS.go (s_tswI (tgt := 78) rfl (by rw [qs7_7]; decide) (by rw [qs7_7]; decide) (by rw [qs7_7]; rfl) rfl) ?_
    refine XS.go (s_lloadn rfl rfl rfl) ?_
    cases hf
    exact XR.retl rfl rfl (fun hret => ⟨_, hret, ⟨rfl, rfl⟩, L6⟩)
  rw [if_neg qs7_7] at hf
  by_cases qs7_8 : a0 = 9
  · rw [if_pos qs7_8] at hf
    refine XS.go (s_tswI (tgt := 74) rfl (by rw [qs7_8]; decide) (by rw [qs7_8]; decide) (by rw [qs7_8]; rfl) rfl) ?_
    refine XS.go (s_lloadn rfl rfl rfl) ?_
    refine XS.go (s_l2i rfl) ?_
    refine XS.go (s_i2l rfl) ?_
    cases hf
    exact XR.retl rfl rfl (fun hret => ⟨_, hret, ⟨rfl, rfl⟩, L6⟩)
  rw [if_neg qs7_8] at hf
  have qs7_o : (a0).toInt < 1 ∨ 9 < (a0).toInt := by
    refine tsw_out 1 9 (by decide) ?_
    intro k h1 h2
    have z : k = 1 ∨ k = 2 ∨ k = 3 ∨ k = 4 ∨ k = 5 ∨ k = 6 ∨ k = 7 ∨ k = 8 ∨ k = 9 := by omega
    rcases z with rfl | rfl | rfl | rfl | rfl | rfl | rfl | rfl | rfl
    · exact qs7_0
    · exact qs7_1
    · exact qs7_2
    · exact qs7_3
    · exact qs7_4
    · exact qs7_5
    · exact qs7_6
    · exact qs7_7
    · exact qs7_8
  refine XS.go (s_tswO (tgt := 78) rfl qs7_o rfl) ?_
  refine XS.go (s_lloadn rfl rfl rfl) ?_
  cases hf
  exact XR.retl rfl rfl (fun hret => ⟨_, hret, ⟨rfl, rfl⟩, L6⟩)
