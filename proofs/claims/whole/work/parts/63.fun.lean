/-! Methods as functions of the heap -/
def b_m_judge_42 (h : XH) : Option (Int32 × XH) := (if ¬ (hi h 1262 76) = 0 then (some (0, h)) else (some (1, h)))
set_option maxRecDepth 20000 in
theorem kb_m_judge_42 {l : Launch} {G : XG} {d : Nat} {h : XH} {r : Int32 × XH} (L0 : LY h) (hf : b_m_judge_42 h = some r) : XR l G xEX12_judge (d + 201) (42, [some (.ref 1262)], [], h) (fun C => ∃ v, xRet xEX12_judge C v ∧ (C.2.2.2 = r.2 ∧ v = some (.int r.1)) ∧ LY r.2) := by
  unfold b_m_judge_42 at hf
  refine XS.go (s_aloadn rfl rfl rfl) ?_
  refine XS.go (s_getie rfl xf12_450 (LY.lt L0 (by decide)) (LY.k1262 L0) (by decide) rfl rfl) ?_
  refine r_if_ne (tgt := 53) rfl rfl (fun qc1 => ?_) (fun qc1 => ?_)
  · rw [if_pos qc1] at hf
    refine XS.go (s_iconst (v := 0) rfl rfl) ?_
    cases hf
    exact XR.retz rfl rfl (by decide) (fun hret => ⟨_, hret, ⟨rfl, rfl⟩, L0⟩)
  · rw [if_neg qc1] at hf
    refine XS.go (s_iconst (v := 1) rfl rfl) ?_
    refine XS.go (s_goto (tgt := 54) rfl rfl) ?_
    cases hf
    exact XR.retz rfl rfl (by decide) (fun hret => ⟨_, hret, ⟨rfl, rfl⟩, L0⟩)
def f_m_judge (h : XH) : Option (Int32 × XH) := (if 4 ≤ (hi h 1262 75) then (match f_m_toTable 40 0 (hi h 1262 45) 1 (hsi (hsi (hsi h 1262 76 0) 1262 77 0) 1262 78 0) with | none => none | some r3 => (b_m_judge_42 r3.2)) else (match f_m_wrong 1 0 (hsi (hsi (hsi h 1262 76 0) 1262 77 0) 1262 78 0) with | none => none | some r6 => (b_m_judge_42 r6.2)))
set_option maxRecDepth 20000 in
theorem kf_m_judge {l : Launch} {G : XG} {d : Nat} {h : XH} {r : Int32 × XH} (L0 : LY h) (hf : f_m_judge h = some r) : XC l G xEX12_judge (d + 201) [.ref 1262] h (fun v h2 => (h2 = r.2 ∧ v = some (.int r.1)) ∧ LY r.2) := by
  refine XC.virt xvX12_judge (Nat.le_of_ble_eq_true rfl) ?_
  unfold f_m_judge at hf
  refine XS.go (s_aloadn rfl rfl rfl) ?_
  refine XS.go (s_iconst (v := 0) rfl rfl) ?_
  refine XS.go (s_puti rfl xf12_450 (LY.lt L0 (by decide)) (LY.k1262 L0) (by decide) rfl (Or.inl rfl)) ?_
  refine XS.go (s_aloadn rfl rfl rfl) ?_
  refine XS.go (s_iconst (v := 0) rfl rfl) ?_
  refine XS.go (s_puti rfl xf12_453 (LY.lt (by simp only [LY_si, LY_sj]; exact L0) (by decide)) (LY.k1262 (by simp only [LY_si, LY_sj]; exact L0)) (by decide) rfl (Or.inl rfl)) ?_
  refine XS.go (s_aloadn rfl rfl rfl) ?_
  refine XS.go (s_iconst (v := 0) rfl rfl) ?_
  refine XS.go (s_puti rfl xf12_456 (LY.lt (by simp only [LY_si, LY_sj]; exact L0) (by decide)) (LY.k1262 (by simp only [LY_si, LY_sj]; exact L0)) (by decide) rfl (Or.inl rfl)) ?_
  refine XS.go (s_aloadn rfl rfl rfl) ?_
  refine XS.go (s_getie rfl xf12_459 (LY.lt (by simp only [LY_si, LY_sj]; exact L0) (by decide)) (LY.k1262 (by simp only [LY_si, LY_sj]; exact L0)) (by decide) rfl ((hi_hsi_nk (by decide)).trans ((hi_hsi_nk (by decide)).trans (hi_hsi_nk (by decide))))) ?_
  refine XS.go (s_iconst (v := 4) rfl rfl) ?_
  refine r_icmp_ge (tgt := 32) rfl rfl (fun qc2 => ?_) (fun qc2 => ?_)
  · rw [if_pos qc2] at hf
    refine XS.go (s_aloadn rfl rfl rfl) ?_
    refine XS.go (s_iconst (v := 0) rfl rfl) ?_
    refine XS.go (s_aloadn rfl rfl rfl) ?_
    refine XS.go (s_getie rfl xf12_338 (LY.lt (by simp only [LY_si, LY_sj]; exact L0) (by decide)) (LY.k1262 (by simp only [LY_si, LY_sj]; exact L0)) (by decide) rfl ((hi_hsi_nk (by decide)).trans ((hi_hsi_nk (by decide)).trans (hi_hsi_nk (by decide))))) ?_
    refine XS.go (s_iconst (v := 1) rfl rfl) ?_
    rcases e4 : f_m_toTable 40 0 (hi h 1262 45) 1 (hsi (hsi (hsi h 1262 76 0) 1262 77 0) 1262 78 0) with _ | r3
    · rw [e4] at hf; cases hf
    rw [e4] at hf; dsimp only at hf
    refine r_callv rfl xvX12_toTable xm12_464 (kf_m_toTable (n := 40) (d := d) (by simp only [LY_si, LY_sj]; exact L0) e4) (LY.lt (by simp only [LY_si, LY_sj]; exact L0) (by decide)) (LY.k1262 (by simp only [LY_si, LY_sj]; exact L0)) (by decide) rfl rfl (by omega) (by decide) (Nat.le_of_ble_eq_true rfl) ?_
    rintro _ _ ⟨⟨rfl, rfl⟩, L5⟩
    exact XR.forget (L2 := [some (.ref 1262)]) ⟨rfl, trivial⟩ (kb_m_judge_42 L5 hf)
  · rw [if_neg qc2] at hf
    refine XS.go (s_aloadn rfl rfl rfl) ?_
    refine XS.go (s_iconst (v := 1) rfl rfl) ?_
    refine XS.go (s_iconst (v := 0) rfl rfl) ?_
    rcases e7 : f_m_wrong 1 0 (hsi (hsi (hsi h 1262 76 0) 1262 77 0) 1262 78 0) with _ | r6
    · rw [e7] at hf; cases hf
    rw [e7] at hf; dsimp only at hf
    refine r_callv rfl xvX12_wrong xm12_462 (kf_m_wrong (d := d) (by simp only [LY_si, LY_sj]; exact L0) e7) (LY.lt (by simp only [LY_si, LY_sj]; exact L0) (by decide)) (LY.k1262 (by simp only [LY_si, LY_sj]; exact L0)) (by decide) rfl rfl (by omega) (by decide) (Nat.le_of_ble_eq_true rfl) ?_
    rintro _ _ ⟨⟨rfl, rfl⟩, L8⟩
    refine XS.go (s_goto (tgt := 42) rfl rfl) ?_
    exact XR.forget (L2 := [some (.ref 1262)]) ⟨rfl, trivial⟩ (kb_m_judge_42 L8 hf)
def f_m_enter (a0 : Int32) (a1 : Int32) (a2 : Int32) (a3 : Int32) (h : XH) : Option (Unit × XH) := (if 0 ≤ (hi h 1262 87) ∧ (hi h 1262 87) < nI 100 then (some ((), (hsi (hsi (hsi (hsi (hsi h 1312 (Int32.toNatClampNeg (hi h 1262 87)) a0) 1313 (Int32.toNatClampNeg (hi h 1262 87)) a1) 1314 (Int32.toNatClampNeg (hi h 1262 87)) a2) 1315 (Int32.toNatClampNeg (hi h 1262 87)) a3) 1262 87 ((hi h 1262 87) + 1)))) else none)
set_option maxRecDepth 20000 in
theorem kf_m_enter {l : Launch} {G : XG} {d : Nat} {a0 : Int32} {a1 : Int32} {a2 : Int32} {a3 : Int32} {h : XH} {r : Unit × XH} (L0 : LY h) (hf : f_m_enter a0 a1 a2 a3 h = some r) : XC l G xEX12_enter d [.ref 1262, .int a0, .int a1, .int a2, .int a3] h (fun v h2 => (h2 = r.2 ∧ v = none) ∧ LY r.2) := by
  refine XC.virt xvX12_enter (Nat.le_of_ble_eq_true rfl) ?_
  unfold f_m_enter at hf
  refine XS.go (s_aloadn rfl rfl rfl) ?_
  refine XS.go (s_getr rfl xf12_163 (LY.lt L0 (by decide)) (LY.k1262 L0) (by decide) rfl (LY.r1262_83 L0)) ?_
  refine XS.go (s_aloadn rfl rfl rfl) ?_
  refine XS.go (s_getie rfl xf12_500 (LY.lt L0 (by decide)) (LY.k1262 L0) (by decide) rfl rfl) ?_
  refine XS.go (s_iloadn rfl rfl rfl) ?_
  by_cases qk1 : 0 ≤ (hi h 1262 87) ∧ (hi h 1262 87) < nI 100
  rotate_left
  · rw [if_neg qk1] at hf; cases hf
  rw [if_pos qk1] at hf
  refine XS.go (s_iast rfl (LY.lt L0 (by decide)) (LY.k1312 L0) (inLit (LY.n1312 L0) qk1.1 qk1.2 (by decide))) ?_
  refine XS.go (s_aloadn rfl rfl rfl) ?_
  refine XS.go (s_getr rfl xf12_166 (LY.lt (by simp only [LY_si, LY_sj]; exact L0) (by decide)) (LY.k1262 (by simp only [LY_si, LY_sj]; exact L0)) (by decide) rfl (LY.r1262_84 (by simp only [LY_si, LY_sj]; exact L0))) ?_
  refine XS.go (s_aloadn rfl rfl rfl) ?_
  refine XS.go (s_getie rfl xf12_500 (LY.lt (by simp only [LY_si, LY_sj]; exact L0) (by decide)) (LY.k1262 (by simp only [LY_si, LY_sj]; exact L0)) (by decide) rfl (hi_hsi_na (by decide))) ?_
  refine XS.go (s_iloadn rfl rfl rfl) ?_
  refine XS.go (s_iast rfl (LY.lt (by simp only [LY_si, LY_sj]; exact L0) (by decide)) (LY.k1313 (by simp only [LY_si, LY_sj]; exact L0)) (inLit (LY.n1313 (by simp only [LY_si, LY_sj]; exact L0)) qk1.1 qk1.2 (by decide))) ?_
  refine XS.go (s_aloadn rfl rfl rfl) ?_
  refine XS.go (s_getr rfl xf12_169 (LY.lt (by simp only [LY_si, LY_sj]; exact L0) (by decide)) (LY.k1262 (by simp only [LY_si, LY_sj]; exact L0)) (by decide) rfl (LY.r1262_85 (by simp only [LY_si, LY_sj]; exact L0))) ?_
  refine XS.go (s_aloadn rfl rfl rfl) ?_
  refine XS.go (s_getie rfl xf12_500 (LY.lt (by simp only [LY_si, LY_sj]; exact L0) (by decide)) (LY.k1262 (by simp only [LY_si, LY_sj]; exact L0)) (by decide) rfl ((hi_hsi_na (by decide)).trans (hi_hsi_na (by decide)))) ?_
  refine XS.go (s_iloadn rfl rfl rfl) ?_
  refine XS.go (s_iast rfl (LY.lt (by simp only [LY_si, LY_sj]; exact L0) (by decide)) (LY.k1314 (by simp only [LY_si, LY_sj]; exact L0)) (inLit (LY.n1314 (by simp only [LY_si, LY_sj]; exact L0)) qk1.1 qk1.2 (by decide))) ?_
  refine XS.go (s_aloadn rfl rfl rfl) ?_
  refine XS.go (s_getr rfl xf12_172 (LY.lt (by simp only [LY_si, LY_sj]; exact L0) (by decide)) (LY.k1262 (by simp only [LY_si, LY_sj]; exact L0)) (by decide) rfl (LY.r1262_86 (by simp only [LY_si, LY_sj]; exact L0))) ?_
  refine XS.go (s_aloadn rfl rfl rfl) ?_
  refine XS.go (s_getie rfl xf12_500 (LY.lt (by simp only [LY_si, LY_sj]; exact L0) (by decide)) (LY.k1262 (by simp only [LY_si, LY_sj]; exact L0)) (by decide) rfl ((hi_hsi_na (by decide)).trans ((hi_hsi_na (by decide)).trans (hi_hsi_na (by decide))))) ?_
  refine XS.go (s_iload rfl rfl) ?_
  refine XS.go (s_iast rfl (LY.lt (by simp only [LY_si, LY_sj]; exact L0) (by decide)) (LY.k1315 (by simp only [LY_si, LY_sj]; exact L0)) (inLit (LY.n1315 (by simp only [LY_si, LY_sj]; exact L0)) qk1.1 qk1.2 (by decide))) ?_
  refine XS.go (s_aloadn rfl rfl rfl) ?_
  refine XS.go (s_dup rfl rfl) ?_
  refine XS.go (s_getie rfl xf12_500 (LY.lt (by simp only [LY_si, LY_sj]; exact L0) (by decide)) (LY.k1262 (by simp only [LY_si, LY_sj]; exact L0)) (by decide) rfl ((hi_hsi_na (by decide)).trans ((hi_hsi_na (by decide)).trans ((hi_hsi_na (by decide)).trans (hi_hsi_na (by decide)))))) ?_
  refine XS.go (s_iconst (v := 1) rfl rfl) ?_
  refine XS.go (s_iadd rfl) ?_
  refine XS.go (s_puti rfl xf12_500 (LY.lt (by simp only [LY_si, LY_sj]; exact L0) (by decide)) (LY.k1262 (by simp only [LY_si, LY_sj]; exact L0)) (by decide) rfl (Or.inl rfl)) ?_
  cases hf
  exact XR.retv rfl rfl (fun hret => ⟨_, hret, ⟨rfl, rfl⟩, (by simp only [LY_si, LY_sj]; exact L0)⟩)
def f_m_atRoot (h : XH) : Option (Unit × XH) := (match f_m_number 0 4 (hsi h 1262 87 0) with | none => none | some r1 => (match f_m_enter 3 (hi h 1262 45) (-1) (Int64.toInt32 r1.1) r1.2 with | none => none | some r4 => (some ((), r4.2))))
set_option maxRecDepth 20000 in
theorem kf_m_atRoot {l : Launch} {G : XG} {d : Nat} {h : XH} {r : Unit × XH} (L0 : LY h) (hf : f_m_atRoot h = some r) : XC l G xEX12_atRoot (d + 1) [.ref 1262] h (fun v h2 => (h2 = r.2 ∧ v = none) ∧ LY r.2) := by
  refine XC.virt xvX12_atRoot (Nat.le_of_ble_eq_true rfl) ?_
  unfold f_m_atRoot at hf
  refine XS.go (s_aloadn rfl rfl rfl) ?_
  refine XS.go (s_iconst (v := 0) rfl rfl) ?_
  refine XS.go (s_puti rfl xf12_500 (LY.lt L0 (by decide)) (LY.k1262 L0) (by decide) rfl (Or.inl rfl)) ?_
  refine XS.go (s_aloadn rfl rfl rfl) ?_
  refine XS.go (s_iconst (v := 3) rfl rfl) ?_
  refine XS.go (s_aloadn rfl rfl rfl) ?_
  refine XS.go (s_getie rfl xf12_338 (LY.lt (by simp only [LY_si, LY_sj]; exact L0) (by decide)) (LY.k1262 (by simp only [LY_si, LY_sj]; exact L0)) (by decide) rfl (hi_hsi_nk (by decide))) ?_
  refine XS.go (s_iconst (v := (-1)) rfl rfl) ?_
  refine XS.go (s_aloadn rfl rfl rfl) ?_
  refine XS.go (s_iconst (v := 0) rfl rfl) ?_
  refine XS.go (s_iconst (v := 4) rfl rfl) ?_
  rcases e2 : f_m_number 0 4 (hsi h 1262 87 0) with _ | r1
  · rw [e2] at hf; cases hf
  rw [e2] at hf; dsimp only at hf
  refine r_callv rfl xvX12_number xm12_467 (kf_m_number (d := d) (by simp only [LY_si, LY_sj]; exact L0) e2) (LY.lt (by simp only [LY_si, LY_sj]; exact L0) (by decide)) (LY.k1262 (by simp only [LY_si, LY_sj]; exact L0)) (by decide) rfl rfl (by omega) (by decide) (Nat.le_of_ble_eq_true rfl) ?_
  rintro _ _ ⟨⟨rfl, rfl⟩, L3⟩
  refine XS.go (s_l2i rfl) ?_
  rcases e5 : f_m_enter 3 (hi h 1262 45) (-1) (Int64.toInt32 r1.1) r1.2 with _ | r4
  · rw [e5] at hf; cases hf
  rw [e5] at hf; dsimp only at hf
  refine r_callv rfl xvX12_enter xm12_503 (kf_m_enter (d := d) L3 e5) (LY.lt L3 (by decide)) (LY.k1262 L3) (by decide) rfl rfl (by omega) (by decide) (Nat.le_of_ble_eq_true rfl) ?_
  rintro _ _ ⟨⟨rfl, rfl⟩, L6⟩
  cases hf
  exact XR.retv rfl rfl (fun hret => ⟨_, hret, ⟨rfl, rfl⟩, L6⟩)
def s_m_back_10 (K10 : Int32 → XH → Option (Unit × XH)) (x1 : Int32) (h : XH) : Option (Unit × XH) := (if (hi h 1262 75) ≤ x1 then (some ((), h)) else (if 0 ≤ x1 ∧ x1 < nI 4000 then (K10 (x1 + 1) (hsi h 1310 (Int32.toNatClampNeg x1) (hi h 1311 (Int32.toNatClampNeg x1)))) else none))
set_option maxRecDepth 20000 in
theorem ks_m_back_10 {l : Launch} {G : XG} {d : Nat} {K10 : Int32 → XH → Option (Unit × XH)} {x1 : Int32} {h : XH} {r : Unit × XH} (hK10 : ∀ (x1 : Int32) (h : XH), LY h → K10 x1 h = some r → XR l G xEX12_back d (10, [some (.ref 1262), some (.int x1)], [], h) (fun C => ∃ v, xRet xEX12_back C v ∧ (C.2.2.2 = r.2 ∧ v = none) ∧ LY r.2)) (L0 : LY h) (hf : s_m_back_10 K10 x1 h = some r) : XR l G xEX12_back d (10, [some (.ref 1262), some (.int x1)], [], h) (fun C => ∃ v, xRet xEX12_back C v ∧ (C.2.2.2 = r.2 ∧ v = none) ∧ LY r.2) := by
  unfold s_m_back_10 at hf
  refine XS.go (s_iloadn rfl rfl rfl) ?_
  refine XS.go (s_aloadn rfl rfl rfl) ?_
  refine XS.go (s_getie rfl xf12_459 (LY.lt L0 (by decide)) (LY.k1262 L0) (by decide) rfl rfl) ?_
  refine r_icmp_ge (tgt := 36) rfl rfl (fun qc1 => ?_) (fun qc1 => ?_)
  · rw [if_pos qc1] at hf
    cases hf
    exact XR.retv rfl rfl (fun hret => ⟨_, hret, ⟨rfl, rfl⟩, L0⟩)
  · rw [if_neg qc1] at hf
    refine XS.go (s_aloadn rfl rfl rfl) ?_
    refine XS.go (s_getr rfl xf12_157 (LY.lt L0 (by decide)) (LY.k1262 L0) (by decide) rfl (LY.r1262_74 L0)) ?_
    refine XS.go (s_iloadn rfl rfl rfl) ?_
    refine XS.go (s_aloadn rfl rfl rfl) ?_
    refine XS.go (s_getr rfl xf12_160 (LY.lt L0 (by decide)) (LY.k1262 L0) (by decide) rfl (LY.r1262_79 L0)) ?_
    refine XS.go (s_iloadn rfl rfl rfl) ?_
    by_cases qk2 : 0 ≤ x1 ∧ x1 < nI 4000
    rotate_left
    · rw [if_neg qk2] at hf; cases hf
    rw [if_pos qk2] at hf
    refine XS.go (s_ialde rfl (LY.lt L0 (by decide)) (LY.k1311 L0) (inLit (LY.n1311 L0) qk2.1 qk2.2 (by decide)) rfl) ?_
    refine XS.go (s_iast rfl (LY.lt L0 (by decide)) (LY.k1310 L0) (inLit (LY.n1310 L0) qk2.1 qk2.2 (by decide))) ?_
    refine XS.go (s_inc rfl rfl (Nat.le_of_ble_eq_true rfl)) ?_
    refine XS.go (s_goto (tgt := 10) rfl rfl) ?_
    exact XR.forget (L2 := [some (.ref 1262), some (.int (x1 + 1))]) ⟨rfl, ⟨rfl, trivial⟩⟩ (hK10 (x1 + 1) _ (by simp only [LY_si, LY_sj]; exact L0) hf)
def b_m_back_10 : Nat → Int32 → XH → Option (Unit × XH)
  | 0, _, _ => none
  | n + 1, x1, h => s_m_back_10 (b_m_back_10 n) x1 h
theorem kb_m_back_10 {l : Launch} {G : XG} {d : Nat} {n : Nat} {x1 : Int32} {h : XH} {r : Unit × XH} (L0 : LY h) (hf : b_m_back_10 n x1 h = some r) : XR l G xEX12_back d (10, [some (.ref 1262), some (.int x1)], [], h) (fun C => ∃ v, xRet xEX12_back C v ∧ (C.2.2.2 = r.2 ∧ v = none) ∧ LY r.2) := by
  induction n generalizing x1 h with
  | zero => cases hf
  | succ n ih => exact ks_m_back_10 (fun x1 h L0 hf => ih (h := h) (x1 := x1) L0 hf) L0 hf
def f_m_back (h : XH) : Option (Unit × XH) := (b_m_back_10 100000 0 (hsi h 1262 75 (hi h 1262 80)))
set_option maxRecDepth 20000 in
theorem kf_m_back {l : Launch} {G : XG} {d : Nat} {h : XH} {r : Unit × XH} (L0 : LY h) (hf : f_m_back h = some r) : XC l G xEX12_back d [.ref 1262] h (fun v h2 => (h2 = r.2 ∧ v = none) ∧ LY r.2) := by
  refine XC.virt xvX12_back (Nat.le_of_ble_eq_true rfl) ?_
  unfold f_m_back at hf
  refine XS.go (s_aloadn rfl rfl rfl) ?_
  refine XS.go (s_aloadn rfl rfl rfl) ?_
  refine XS.go (s_getie rfl xf12_444 (LY.lt L0 (by decide)) (LY.k1262 L0) (by decide) rfl rfl) ?_
  refine XS.go (s_puti rfl xf12_459 (LY.lt L0 (by decide)) (LY.k1262 L0) (by decide) rfl (Or.inl rfl)) ?_
  refine XS.go (s_iconst (v := 0) rfl rfl) ?_
  refine XS.go (s_istoren rfl rfl (Nat.le_of_ble_eq_true rfl)) ?_
  exact XR.forget (L2 := [some (.ref 1262), some (.int 0)]) ⟨rfl, ⟨rfl, trivial⟩⟩ (kb_m_back_10 (by simp only [LY_si, LY_sj]; exact L0) hf)
def s_m_load_148 (K148 : Int32 → XH → Option (Int32 × XH)) (x4 : Int32) (h : XH) : Option (Int32 × XH) := (if (hi h 1262 75) ≤ x4 then (match f_m_atRoot (hsi (hsi h 1262 81 1) 1262 82 (hi h 1262 78)) with | none => none | some r2 => (some (1, r2.2))) else (if 0 ≤ x4 ∧ x4 < nI 4000 then (K148 (x4 + 1) (hsi h 1311 (Int32.toNatClampNeg x4) (hi h 1310 (Int32.toNatClampNeg x4)))) else none))
set_option maxRecDepth 20000 in
theorem ks_m_load_148 {l : Launch} {G : XG} {d : Nat} {K148 : Int32 → XH → Option (Int32 × XH)} {x4 : Int32} {h : XH} {r : Int32 × XH} (hK148 : ∀ (x4 : Int32) (h : XH), LY h → K148 x4 h = some r → XR l G xEX12_load (d + 202) (148, [some (.ref 1262), none, none, none, some (.int x4)], [], h) (fun C => ∃ v, xRet xEX12_load C v ∧ (C.2.2.2 = r.2 ∧ v = some (.int r.1)) ∧ LY r.2)) (L0 : LY h) (hf : s_m_load_148 K148 x4 h = some r) : XR l G xEX12_load (d + 202) (148, [some (.ref 1262), none, none, none, some (.int x4)], [], h) (fun C => ∃ v, xRet xEX12_load C v ∧ (C.2.2.2 = r.2 ∧ v = some (.int r.1)) ∧ LY r.2) := by
  unfold s_m_load_148 at hf
  refine XS.go (s_iload rfl rfl) ?_
  refine XS.go (s_aloadn rfl rfl rfl) ?_
  refine XS.go (s_getie rfl xf12_459 (LY.lt L0 (by decide)) (LY.k1262 L0) (by decide) rfl rfl) ?_
  refine r_icmp_ge (tgt := 177) rfl rfl (fun qc1 => ?_) (fun qc1 => ?_)
  · rw [if_pos qc1] at hf
    refine XS.go (s_aloadn rfl rfl rfl) ?_
    refine XS.go (s_iconst (v := 1) rfl rfl) ?_
    refine XS.go (s_putz rfl xf12_360 (LY.lt L0 (by decide)) (LY.k1262 L0) (by decide) rfl (Or.inl rfl) (by decide)) ?_
    refine XS.go (s_aloadn rfl rfl rfl) ?_
    refine XS.go (s_aloadn rfl rfl rfl) ?_
    refine XS.go (s_getie rfl xf12_456 (LY.lt (by simp only [LY_si, LY_sj]; exact L0) (by decide)) (LY.k1262 (by simp only [LY_si, LY_sj]; exact L0)) (by decide) rfl (hi_hsi_nk (by decide))) ?_
    refine XS.go (s_puti rfl xf12_447 (LY.lt (by simp only [LY_si, LY_sj]; exact L0) (by decide)) (LY.k1262 (by simp only [LY_si, LY_sj]; exact L0)) (by decide) rfl (Or.inl rfl)) ?_
    refine XS.go (s_aloadn rfl rfl rfl) ?_
    rcases e3 : f_m_atRoot (hsi (hsi h 1262 81 1) 1262 82 (hi h 1262 78)) with _ | r2
    · rw [e3] at hf; cases hf
    rw [e3] at hf; dsimp only at hf
    refine r_callv rfl xvX12_atRoot xm12_512 (kf_m_atRoot (d := d) (by simp only [LY_si, LY_sj]; exact L0) e3) (LY.lt (by simp only [LY_si, LY_sj]; exact L0) (by decide)) (LY.k1262 (by simp only [LY_si, LY_sj]; exact L0)) (by decide) rfl rfl (by omega) (by decide) (Nat.le_of_ble_eq_true rfl) ?_
    rintro _ _ ⟨⟨rfl, rfl⟩, L4⟩
    refine XS.go (s_iconst (v := 1) rfl rfl) ?_
    cases hf
    exact XR.retz rfl rfl (by decide) (fun hret => ⟨_, hret, ⟨rfl, rfl⟩, L4⟩)
  · rw [if_neg qc1] at hf
    refine XS.go (s_aloadn rfl rfl rfl) ?_
    refine XS.go (s_getr rfl xf12_160 (LY.lt L0 (by decide)) (LY.k1262 L0) (by decide) rfl (LY.r1262_79 L0)) ?_
    refine XS.go (s_iload rfl rfl) ?_
    refine XS.go (s_aloadn rfl rfl rfl) ?_
    refine XS.go (s_getr rfl xf12_157 (LY.lt L0 (by decide)) (LY.k1262 L0) (by decide) rfl (LY.r1262_74 L0)) ?_
    refine XS.go (s_iload rfl rfl) ?_
    by_cases qk5 : 0 ≤ x4 ∧ x4 < nI 4000
    rotate_left
    · rw [if_neg qk5] at hf; cases hf
    rw [if_pos qk5] at hf
    refine XS.go (s_ialde rfl (LY.lt L0 (by decide)) (LY.k1310 L0) (inLit (LY.n1310 L0) qk5.1 qk5.2 (by decide)) rfl) ?_
    refine XS.go (s_iast rfl (LY.lt L0 (by decide)) (LY.k1311 L0) (inLit (LY.n1311 L0) qk5.1 qk5.2 (by decide))) ?_
    refine XS.go (s_inc rfl rfl (Nat.le_of_ble_eq_true rfl)) ?_
    refine XS.go (s_goto (tgt := 148) rfl rfl) ?_
    exact XR.forget (L2 := [some (.ref 1262), none, none, none, some (.int (x4 + 1))]) ⟨rfl, ⟨rfl, trivial⟩⟩ (hK148 (x4 + 1) _ (by simp only [LY_si, LY_sj]; exact L0) hf)
def b_m_load_148 : Nat → Int32 → XH → Option (Int32 × XH)
  | 0, _, _ => none
  | n + 1, x4, h => s_m_load_148 (b_m_load_148 n) x4 h
theorem kb_m_load_148 {l : Launch} {G : XG} {d : Nat} {n : Nat} {x4 : Int32} {h : XH} {r : Int32 × XH} (L0 : LY h) (hf : b_m_load_148 n x4 h = some r) : XR l G xEX12_load (d + 202) (148, [some (.ref 1262), none, none, none, some (.int x4)], [], h) (fun C => ∃ v, xRet xEX12_load C v ∧ (C.2.2.2 = r.2 ∧ v = some (.int r.1)) ∧ LY r.2) := by
  induction n generalizing x4 h with
  | zero => cases hf
  | succ n ih => exact ks_m_load_148 (fun x4 h L0 hf => ih (h := h) (x4 := x4) L0 hf) L0 hf
def b_m_load_99 (K67 : Int32 → Int32 → XH → Option (Int32 × XH)) (x1 : Int32) (x3 : Int32) (y1 : Int32) (y2 : Int32) (h : XH) : Option (Int32 × XH) := (if 0 ≤ y1 ∧ y1 < nI 4000 then (K67 x1 (x3 + 1) (hsi h 1310 (Int32.toNatClampNeg y1) y2)) else none)
set_option maxRecDepth 20000 in
theorem kb_m_load_99 {l : Launch} {G : XG} {d : Nat} {K67 : Int32 → Int32 → XH → Option (Int32 × XH)} {x1 : Int32} {x3 : Int32} {y1 : Int32} {y2 : Int32} {h : XH} {r : Int32 × XH} (hK67 : ∀ (x1 : Int32) (x3 : Int32) (h : XH), LY h → K67 x1 x3 h = some r → XR l G xEX12_load (d + 202) (67, [some (.ref 1262), some (.int x1), none, some (.int x3), none], [], h) (fun C => ∃ v, xRet xEX12_load C v ∧ (C.2.2.2 = r.2 ∧ v = some (.int r.1)) ∧ LY r.2)) (L0 : LY h) (hf : b_m_load_99 K67 x1 x3 y1 y2 h = some r) : XR l G xEX12_load (d + 202) (99, [some (.ref 1262), some (.int x1), none, some (.int x3), none], [(.int y2), (.int y1), (.ref 1310)], h) (fun C => ∃ v, xRet xEX12_load C v ∧ (C.2.2.2 = r.2 ∧ v = some (.int r.1)) ∧ LY r.2) := by
  unfold b_m_load_99 at hf
  by_cases qk6 : 0 ≤ y1 ∧ y1 < nI 4000
  rotate_left
  · rw [if_neg qk6] at hf; cases hf
  rw [if_pos qk6] at hf
  refine XS.go (s_iast rfl (LY.lt L0 (by decide)) (LY.k1310 L0) (inLit (LY.n1310 L0) qk6.1 qk6.2 (by decide))) ?_
  refine XS.go (s_inc rfl rfl (Nat.le_of_ble_eq_true rfl)) ?_
  refine XS.go (s_goto (tgt := 67) rfl rfl) ?_
  exact XR.forget (L2 := [some (.ref 1262), some (.int x1), none, some (.int (x3 + 1)), none]) ⟨rfl, ⟨rfl, ⟨rfl, trivial⟩⟩⟩ (hK67 x1 (x3 + 1) _ (by simp only [LY_si, LY_sj]; exact L0) hf)
def s_m_load_67 (K67 : Int32 → Int32 → XH → Option (Int32 × XH)) (x1 : Int32) (x3 : Int32) (h : XH) : Option (Int32 × XH) := (if (hi h 1262 75) ≤ x3 then (match f_m_judge h with | none => none | some r8 => (if ¬ r8.1 = 0 then (b_m_load_148 100000 0 (hsi (hsi (hsi r8.2 1262 52 (hi r8.2 1262 76)) 1262 53 (hi r8.2 1262 77)) 1262 80 (hi r8.2 1262 75))) else (match f_m_back (hsi (hsi r8.2 1262 52 (hi r8.2 1262 76)) 1262 53 (hi r8.2 1262 77)) with | none => none | some r12 => (some (0, r12.2))))) else (if ¬ x1 = 0 then (if 0 ≤ x3 ∧ x3 < nI 4000 then (b_m_load_99 K67 x1 x3 x3 (hi h 1308 (Int32.toNatClampNeg x3)) h) else none) else (if 0 ≤ x3 ∧ x3 < nI 4000 then (b_m_load_99 K67 x1 x3 x3 (hi h 1263 (Int32.toNatClampNeg x3)) h) else none)))
set_option maxRecDepth 20000 in
theorem ks_m_load_67 {l : Launch} {G : XG} {d : Nat} {K67 : Int32 → Int32 → XH → Option (Int32 × XH)} {x1 : Int32} {x3 : Int32} {h : XH} {r : Int32 × XH} (hK67 : ∀ (x1 : Int32) (x3 : Int32) (h : XH), LY h → K67 x1 x3 h = some r → XR l G xEX12_load (d + 202) (67, [some (.ref 1262), some (.int x1), none, some (.int x3), none], [], h) (fun C => ∃ v, xRet xEX12_load C v ∧ (C.2.2.2 = r.2 ∧ v = some (.int r.1)) ∧ LY r.2)) (L0 : LY h) (hf : s_m_load_67 K67 x1 x3 h = some r) : XR l G xEX12_load (d + 202) (67, [some (.ref 1262), some (.int x1), none, some (.int x3), none], [], h) (fun C => ∃ v, xRet xEX12_load C v ∧ (C.2.2.2 = r.2 ∧ v = some (.int r.1)) ∧ LY r.2) := by
  unfold s_m_load_67 at hf
  refine XS.go (s_iloadn rfl rfl rfl) ?_
  refine XS.go (s_aloadn rfl rfl rfl) ?_
  refine XS.go (s_getie rfl xf12_459 (LY.lt L0 (by decide)) (LY.k1262 L0) (by decide) rfl rfl) ?_
  refine r_icmp_ge (tgt := 106) rfl rfl (fun qc7 => ?_) (fun qc7 => ?_)
  · rw [if_pos qc7] at hf
    refine XS.go (s_aloadn rfl rfl rfl) ?_
    rcases e9 : f_m_judge h with _ | r8
    · rw [e9] at hf; cases hf
    rw [e9] at hf; dsimp only at hf
    refine r_callv rfl xvX12_judge xm12_506 (kf_m_judge (d := d) L0 e9) (LY.lt L0 (by decide)) (LY.k1262 L0) (by decide) rfl rfl (by omega) (by decide) (Nat.le_of_ble_eq_true rfl) ?_
    rintro _ _ ⟨⟨rfl, rfl⟩, L10⟩
    refine XS.go (s_istoren rfl rfl (Nat.le_of_ble_eq_true rfl)) ?_
    refine XS.go (s_aloadn rfl rfl rfl) ?_
    refine XS.go (s_aloadn rfl rfl rfl) ?_
    refine XS.go (s_getie rfl xf12_450 (LY.lt L10 (by decide)) (LY.k1262 L10) (by decide) rfl rfl) ?_
    refine XS.go (s_puti rfl xf12_363 (LY.lt L10 (by decide)) (LY.k1262 L10) (by decide) rfl (Or.inl rfl)) ?_
    refine XS.go (s_aloadn rfl rfl rfl) ?_
    refine XS.go (s_aloadn rfl rfl rfl) ?_
    refine XS.go (s_getie rfl xf12_453 (LY.lt (by simp only [LY_si, LY_sj]; exact L10) (by decide)) (LY.k1262 (by simp only [LY_si, LY_sj]; exact L10)) (by decide) rfl (hi_hsi_nk (by decide))) ?_
    refine XS.go (s_puti rfl xf12_366 (LY.lt (by simp only [LY_si, LY_sj]; exact L10) (by decide)) (LY.k1262 (by simp only [LY_si, LY_sj]; exact L10)) (by decide) rfl (Or.inl rfl)) ?_
    refine XS.go (s_iloadn rfl rfl rfl) ?_
    refine r_if_ne (tgt := 137) rfl rfl (fun qc11 => ?_) (fun qc11 => ?_)
    · rw [if_pos qc11] at hf
      refine XS.go (s_aloadn rfl rfl rfl) ?_
      refine XS.go (s_aloadn rfl rfl rfl) ?_
      refine XS.go (s_getie rfl xf12_459 (LY.lt (by simp only [LY_si, LY_sj]; exact L10) (by decide)) (LY.k1262 (by simp only [LY_si, LY_sj]; exact L10)) (by decide) rfl ((hi_hsi_nk (by decide)).trans (hi_hsi_nk (by decide)))) ?_
      refine XS.go (s_puti rfl xf12_444 (LY.lt (by simp only [LY_si, LY_sj]; exact L10) (by decide)) (LY.k1262 (by simp only [LY_si, LY_sj]; exact L10)) (by decide) rfl (Or.inl rfl)) ?_
      refine XS.go (s_iconst (v := 0) rfl rfl) ?_
      refine XS.go (s_istore rfl (Nat.le_of_ble_eq_true rfl)) ?_
      exact XR.forget (L2 := [some (.ref 1262), none, none, none, some (.int 0)]) ⟨rfl, ⟨rfl, trivial⟩⟩ (kb_m_load_148 (by simp only [LY_si, LY_sj]; exact L10) hf)
    · rw [if_neg qc11] at hf
      refine XS.go (s_aloadn rfl rfl rfl) ?_
      rcases e13 : f_m_back (hsi (hsi r8.2 1262 52 (hi r8.2 1262 76)) 1262 53 (hi r8.2 1262 77)) with _ | r12
      · rw [e13] at hf; cases hf
      rw [e13] at hf; dsimp only at hf
      refine r_callv rfl xvX12_back xm12_509 (kf_m_back (d := d) (by simp only [LY_si, LY_sj]; exact L10) e13) (LY.lt (by simp only [LY_si, LY_sj]; exact L10) (by decide)) (LY.k1262 (by simp only [LY_si, LY_sj]; exact L10)) (by decide) rfl rfl (by omega) (by decide) (Nat.le_of_ble_eq_true rfl) ?_
      rintro _ _ ⟨⟨rfl, rfl⟩, L14⟩
      refine XS.go (s_iconst (v := 0) rfl rfl) ?_
      cases hf
      exact XR.retz rfl rfl (by decide) (fun hret => ⟨_, hret, ⟨rfl, rfl⟩, L14⟩)
  · rw [if_neg qc7] at hf
    refine XS.go (s_aloadn rfl rfl rfl) ?_
    refine XS.go (s_getr rfl xf12_157 (LY.lt L0 (by decide)) (LY.k1262 L0) (by decide) rfl (LY.r1262_74 L0)) ?_
    refine XS.go (s_iloadn rfl rfl rfl) ?_
    refine XS.go (s_iloadn rfl rfl rfl) ?_
    refine r_if_ne (tgt := 93) rfl rfl (fun qc15 => ?_) (fun qc15 => ?_)
    · rw [if_pos qc15] at hf
      refine XS.go (s_aloadn rfl rfl rfl) ?_
      refine XS.go (s_getr rfl xf12_151 (LY.lt L0 (by decide)) (LY.k1262 L0) (by decide) rfl (LY.r1262_71 L0)) ?_
      refine XS.go (s_iloadn rfl rfl rfl) ?_
      by_cases qk16 : 0 ≤ x3 ∧ x3 < nI 4000
      rotate_left
      · rw [if_neg qk16] at hf; cases hf
      rw [if_pos qk16] at hf
      refine XS.go (s_ialde rfl (LY.lt L0 (by decide)) (LY.k1308 L0) (inLit (LY.n1308 L0) qk16.1 qk16.2 (by decide)) rfl) ?_
      exact XR.forget (L2 := [some (.ref 1262), some (.int x1), none, some (.int x3), none]) ⟨rfl, ⟨rfl, ⟨rfl, trivial⟩⟩⟩ (kb_m_load_99 hK67 L0 hf)
    · rw [if_neg qc15] at hf
      refine XS.go (s_aloadn rfl rfl rfl) ?_
      refine XS.go (s_getr rfl xf12_9 (LY.lt L0 (by decide)) (LY.k1262 L0) (by decide) rfl (LY.r1262_1 L0)) ?_
      refine XS.go (s_iloadn rfl rfl rfl) ?_
      by_cases qk17 : 0 ≤ x3 ∧ x3 < nI 4000
      rotate_left
      · rw [if_neg qk17] at hf; cases hf
      rw [if_pos qk17] at hf
      refine XS.go (s_ialde rfl (LY.lt L0 (by decide)) (LY.k1263 L0) (inLit (LY.n1263 L0) qk17.1 qk17.2 (by decide)) rfl) ?_
      refine XS.go (s_goto (tgt := 99) rfl rfl) ?_
      exact XR.forget (L2 := [some (.ref 1262), some (.int x1), none, some (.int x3), none]) ⟨rfl, ⟨rfl, ⟨rfl, trivial⟩⟩⟩ (kb_m_load_99 hK67 L0 hf)
def b_m_load_67 : Nat → Int32 → Int32 → XH → Option (Int32 × XH)
  | 0, _, _, _ => none
  | n + 1, x1, x3, h => s_m_load_67 (b_m_load_67 n) x1 x3 h
theorem kb_m_load_67 {l : Launch} {G : XG} {d : Nat} {n : Nat} {x1 : Int32} {x3 : Int32} {h : XH} {r : Int32 × XH} (L0 : LY h) (hf : b_m_load_67 n x1 x3 h = some r) : XR l G xEX12_load (d + 202) (67, [some (.ref 1262), some (.int x1), none, some (.int x3), none], [], h) (fun C => ∃ v, xRet xEX12_load C v ∧ (C.2.2.2 = r.2 ∧ v = some (.int r.1)) ∧ LY r.2) := by
  induction n generalizing x1 x3 h with
  | zero => cases hf
  | succ n ih => exact ks_m_load_67 (fun x1 x3 h L0 hf => ih (h := h) (x1 := x1) (x3 := x3) L0 hf) L0 hf
def b_m_load_46 (x1 : Int32) (x2 : Int32) (h : XH) : Option (Int32 × XH) := (if ¬ (hi h 1262 7) = 0 then (b_m_load_67 100000 x1 0 (hsi h 1262 75 x2)) else (some (0, (hsi h 1262 0 2))))
set_option maxRecDepth 20000 in
theorem kb_m_load_46 {l : Launch} {G : XG} {d : Nat} {x1 : Int32} {x2 : Int32} {h : XH} {r : Int32 × XH} (L0 : LY h) (hf : b_m_load_46 x1 x2 h = some r) : XR l G xEX12_load (d + 202) (46, [some (.ref 1262), some (.int x1), some (.int x2), none, none], [], h) (fun C => ∃ v, xRet xEX12_load C v ∧ (C.2.2.2 = r.2 ∧ v = some (.int r.1)) ∧ LY r.2) := by
  unfold b_m_load_46 at hf
  refine XS.go (s_aloadn rfl rfl rfl) ?_
  refine XS.go (s_getze rfl xf12_353 (LY.lt L0 (by decide)) (LY.k1262 L0) (by decide) rfl rfl) ?_
  refine r_if_ne (tgt := 60) rfl rfl (fun qc18 => ?_) (fun qc18 => ?_)
  · rw [if_pos qc18] at hf
    refine XS.go (s_aloadn rfl rfl rfl) ?_
    refine XS.go (s_iloadn rfl rfl rfl) ?_
    refine XS.go (s_puti rfl xf12_459 (LY.lt L0 (by decide)) (LY.k1262 L0) (by decide) rfl (Or.inl rfl)) ?_
    refine XS.go (s_iconst (v := 0) rfl rfl) ?_
    refine XS.go (s_istoren rfl rfl (Nat.le_of_ble_eq_true rfl)) ?_
    exact XR.forget (L2 := [some (.ref 1262), some (.int x1), none, some (.int 0), none]) ⟨rfl, ⟨rfl, ⟨rfl, trivial⟩⟩⟩ (kb_m_load_67 (by simp only [LY_si, LY_sj]; exact L0) hf)
  · rw [if_neg qc18] at hf
    refine XS.go (s_aloadn rfl rfl rfl) ?_
    refine XS.go (s_iconst (v := 2) rfl rfl) ?_
    refine XS.go (s_puti rfl xf12_175 (LY.lt L0 (by decide)) (LY.k1262 L0) (by decide) rfl (Or.inl rfl)) ?_
    refine XS.go (s_iconst (v := 0) rfl rfl) ?_
    cases hf
    exact XR.retz rfl rfl (by decide) (fun hret => ⟨_, hret, ⟨rfl, rfl⟩, (by simp only [LY_si, LY_sj]; exact L0)⟩)
def b_m_load_36 (x1 : Int32) (y0 : Int32) (h : XH) : Option (Int32 × XH) := (if ¬ x1 = 0 then (b_m_load_46 x1 y0 h) else (b_m_load_46 x1 y0 (hsi h 1262 2 0)))
set_option maxRecDepth 20000 in
theorem kb_m_load_36 {l : Launch} {G : XG} {d : Nat} {x1 : Int32} {y0 : Int32} {h : XH} {r : Int32 × XH} (L0 : LY h) (hf : b_m_load_36 x1 y0 h = some r) : XR l G xEX12_load (d + 202) (36, [some (.ref 1262), some (.int x1), none, none, none], [(.int y0)], h) (fun C => ∃ v, xRet xEX12_load C v ∧ (C.2.2.2 = r.2 ∧ v = some (.int r.1)) ∧ LY r.2) := by
  unfold b_m_load_36 at hf
  refine XS.go (s_istoren rfl rfl (Nat.le_of_ble_eq_true rfl)) ?_
  refine XS.go (s_iloadn rfl rfl rfl) ?_
  refine r_if_ne (tgt := 46) rfl rfl (fun qc19 => ?_) (fun qc19 => ?_)
  · rw [if_pos qc19] at hf
    exact XR.forget (L2 := [some (.ref 1262), some (.int x1), some (.int y0), none, none]) ⟨rfl, ⟨rfl, ⟨rfl, trivial⟩⟩⟩ (kb_m_load_46 L0 hf)
  · rw [if_neg qc19] at hf
    refine XS.go (s_aloadn rfl rfl rfl) ?_
    refine XS.go (s_iconst (v := 0) rfl rfl) ?_
    refine XS.go (s_puti rfl xf12_178 (LY.lt L0 (by decide)) (LY.k1262 L0) (by decide) rfl (Or.inl rfl)) ?_
    exact XR.forget (L2 := [some (.ref 1262), some (.int x1), some (.int y0), none, none]) ⟨rfl, ⟨rfl, ⟨rfl, trivial⟩⟩⟩ (kb_m_load_46 (by simp only [LY_si, LY_sj]; exact L0) hf)
def b_m_load_21 (x1 : Int32) (h : XH) : Option (Int32 × XH) := (if ¬ x1 = 0 then (b_m_load_36 x1 (hi h 1262 72) h) else (b_m_load_36 x1 (hi h 1262 2) h))
set_option maxRecDepth 20000 in
theorem kb_m_load_21 {l : Launch} {G : XG} {d : Nat} {x1 : Int32} {h : XH} {r : Int32 × XH} (L0 : LY h) (hf : b_m_load_21 x1 h = some r) : XR l G xEX12_load (d + 202) (21, [some (.ref 1262), some (.int x1), none, none, none], [], h) (fun C => ∃ v, xRet xEX12_load C v ∧ (C.2.2.2 = r.2 ∧ v = some (.int r.1)) ∧ LY r.2) := by
  unfold b_m_load_21 at hf
  refine XS.go (s_iloadn rfl rfl rfl) ?_
  refine r_if_ne (tgt := 32) rfl rfl (fun qc20 => ?_) (fun qc20 => ?_)
  · rw [if_pos qc20] at hf
    refine XS.go (s_aloadn rfl rfl rfl) ?_
    refine XS.go (s_getie rfl xf12_441 (LY.lt L0 (by decide)) (LY.k1262 L0) (by decide) rfl rfl) ?_
    exact XR.forget (L2 := [some (.ref 1262), some (.int x1), none, none, none]) ⟨rfl, ⟨rfl, trivial⟩⟩ (kb_m_load_36 L0 hf)
  · rw [if_neg qc20] at hf
    refine XS.go (s_aloadn rfl rfl rfl) ?_
    refine XS.go (s_getie rfl xf12_178 (LY.lt L0 (by decide)) (LY.k1262 L0) (by decide) rfl rfl) ?_
    refine XS.go (s_goto (tgt := 36) rfl rfl) ?_
    exact XR.forget (L2 := [some (.ref 1262), some (.int x1), none, none, none]) ⟨rfl, ⟨rfl, trivial⟩⟩ (kb_m_load_36 L0 hf)
def f_m_load (a0 : Int32) (h : XH) : Option (Int32 × XH) := (if a0 = 0 then (b_m_load_21 a0 (hsi h 1262 0 0)) else (if a0 = 1 then (b_m_load_21 a0 (hsi h 1262 0 0)) else (some (0, (hsi (hsi h 1262 0 0) 1262 0 1)))))
set_option maxRecDepth 20000 in
theorem kf_m_load {l : Launch} {G : XG} {d : Nat} {a0 : Int32} {h : XH} {r : Int32 × XH} (L0 : LY h) (hf : f_m_load a0 h = some r) : XC l G xEX12_load (d + 202) [.ref 1262, .int a0] h (fun v h2 => (h2 = r.2 ∧ v = some (.int r.1)) ∧ LY r.2) := by
  refine XC.virt xvX12_load (Nat.le_of_ble_eq_true rfl) ?_
  unfold f_m_load at hf
  refine XS.go (s_aloadn rfl rfl rfl) ?_
  refine XS.go (s_iconst (v := 0) rfl rfl) ?_
  refine XS.go (s_puti rfl xf12_175 (LY.lt L0 (by decide)) (LY.k1262 L0) (by decide) rfl (Or.inl rfl)) ?_
  refine XS.go (s_iloadn rfl rfl rfl) ?_
  refine r_if_eq (tgt := 21) rfl rfl (fun qc21 => ?_) (fun qc21 => ?_)
  · rw [if_pos qc21] at hf
    exact XR.forget (L2 := [some (.ref 1262), some (.int a0), none, none, none]) ⟨rfl, ⟨rfl, trivial⟩⟩ (kb_m_load_21 (by simp only [LY_si, LY_sj]; exact L0) hf)
  · rw [if_neg qc21] at hf
    refine XS.go (s_iloadn rfl rfl rfl) ?_
    refine XS.go (s_iconst (v := 1) rfl rfl) ?_
    refine r_icmp_eq (tgt := 21) rfl rfl (fun qc22 => ?_) (fun qc22 => ?_)
    · rw [if_pos qc22] at hf
      exact XR.forget (L2 := [some (.ref 1262), some (.int a0), none, none, none]) ⟨rfl, ⟨rfl, trivial⟩⟩ (kb_m_load_21 (by simp only [LY_si, LY_sj]; exact L0) hf)
    · rw [if_neg qc22] at hf
      refine XS.go (s_aloadn rfl rfl rfl) ?_
      refine XS.go (s_iconst (v := 1) rfl rfl) ?_
      refine XS.go (s_puti rfl xf12_175 (LY.lt (by simp only [LY_si, LY_sj]; exact L0) (by decide)) (LY.k1262 (by simp only [LY_si, LY_sj]; exact L0)) (by decide) rfl (Or.inl rfl)) ?_
      refine XS.go (s_iconst (v := 0) rfl rfl) ?_
      cases hf
      exact XR.retz rfl rfl (by decide) (fun hret => ⟨_, hret, ⟨rfl, rfl⟩, (by simp only [LY_si, LY_sj]; exact L0)⟩)
def f_m_sort (h : XH) : Option (Int32 × XH) := (if 0 ≤ ((hi h 1262 87) - 1) ∧ ((hi h 1262 87) - 1) < nI 100 then (some ((hi h 1312 (Int32.toNatClampNeg ((hi h 1262 87) - 1))), h)) else none)
set_option maxRecDepth 20000 in
theorem kf_m_sort {l : Launch} {G : XG} {d : Nat} {h : XH} {r : Int32 × XH} (L0 : LY h) (hf : f_m_sort h = some r) : XC l G xEX12_sort d [.ref 1262] h (fun v h2 => (h2 = r.2 ∧ v = some (.int r.1)) ∧ LY r.2) := by
  refine XC.virt xvX12_sort (Nat.le_of_ble_eq_true rfl) ?_
  unfold f_m_sort at hf
  refine XS.go (s_aloadn rfl rfl rfl) ?_
  refine XS.go (s_getr rfl xf12_163 (LY.lt L0 (by decide)) (LY.k1262 L0) (by decide) rfl (LY.r1262_83 L0)) ?_
  refine XS.go (s_aloadn rfl rfl rfl) ?_
  refine XS.go (s_getie rfl xf12_500 (LY.lt L0 (by decide)) (LY.k1262 L0) (by decide) rfl rfl) ?_
  refine XS.go (s_iconst (v := 1) rfl rfl) ?_
  refine XS.go (s_isub rfl) ?_
  by_cases qk1 : 0 ≤ ((hi h 1262 87) - 1) ∧ ((hi h 1262 87) - 1) < nI 100
  rotate_left
  · rw [if_neg qk1] at hf; cases hf
  rw [if_pos qk1] at hf
  refine XS.go (s_ialde rfl (LY.lt L0 (by decide)) (LY.k1312 L0) (inLit (LY.n1312 L0) qk1.1 qk1.2 (by decide)) rfl) ?_
  cases hf
  exact XR.reti rfl rfl (fun hret => ⟨_, hret, ⟨rfl, rfl⟩, L0⟩)
def f_m_of (h : XH) : Option (Int32 × XH) := (if 0 ≤ ((hi h 1262 87) - 1) ∧ ((hi h 1262 87) - 1) < nI 100 then (some ((hi h 1313 (Int32.toNatClampNeg ((hi h 1262 87) - 1))), h)) else none)
set_option maxRecDepth 20000 in
theorem kf_m_of {l : Launch} {G : XG} {d : Nat} {h : XH} {r : Int32 × XH} (L0 : LY h) (hf : f_m_of h = some r) : XC l G xEX12_of d [.ref 1262] h (fun v h2 => (h2 = r.2 ∧ v = some (.int r.1)) ∧ LY r.2) := by
  refine XC.virt xvX12_of (Nat.le_of_ble_eq_true rfl) ?_
  unfold f_m_of at hf
  refine XS.go (s_aloadn rfl rfl rfl) ?_
  refine XS.go (s_getr rfl xf12_166 (LY.lt L0 (by decide)) (LY.k1262 L0) (by decide) rfl (LY.r1262_84 L0)) ?_
  refine XS.go (s_aloadn rfl rfl rfl) ?_
  refine XS.go (s_getie rfl xf12_500 (LY.lt L0 (by decide)) (LY.k1262 L0) (by decide) rfl rfl) ?_
  refine XS.go (s_iconst (v := 1) rfl rfl) ?_
  refine XS.go (s_isub rfl) ?_
  by_cases qk1 : 0 ≤ ((hi h 1262 87) - 1) ∧ ((hi h 1262 87) - 1) < nI 100
  rotate_left
  · rw [if_neg qk1] at hf; cases hf
  rw [if_pos qk1] at hf
  refine XS.go (s_ialde rfl (LY.lt L0 (by decide)) (LY.k1313 L0) (inLit (LY.n1313 L0) qk1.1 qk1.2 (by decide)) rfl) ?_
  cases hf
  exact XR.reti rfl rfl (fun hret => ⟨_, hret, ⟨rfl, rfl⟩, L0⟩)
def f_m_place (h : XH) : Option (Int32 × XH) := (if 0 ≤ ((hi h 1262 87) - 1) ∧ ((hi h 1262 87) - 1) < nI 100 then (some ((hi h 1315 (Int32.toNatClampNeg ((hi h 1262 87) - 1))), h)) else none)
set_option maxRecDepth 20000 in
theorem kf_m_place {l : Launch} {G : XG} {d : Nat} {h : XH} {r : Int32 × XH} (L0 : LY h) (hf : f_m_place h = some r) : XC l G xEX12_place d [.ref 1262] h (fun v h2 => (h2 = r.2 ∧ v = some (.int r.1)) ∧ LY r.2) := by
  refine XC.virt xvX12_place (Nat.le_of_ble_eq_true rfl) ?_
  unfold f_m_place at hf
  refine XS.go (s_aloadn rfl rfl rfl) ?_
  refine XS.go (s_getr rfl xf12_172 (LY.lt L0 (by decide)) (LY.k1262 L0) (by decide) rfl (LY.r1262_86 L0)) ?_
  refine XS.go (s_aloadn rfl rfl rfl) ?_
  refine XS.go (s_getie rfl xf12_500 (LY.lt L0 (by decide)) (LY.k1262 L0) (by decide) rfl rfl) ?_
  refine XS.go (s_iconst (v := 1) rfl rfl) ?_
  refine XS.go (s_isub rfl) ?_
  by_cases qk1 : 0 ≤ ((hi h 1262 87) - 1) ∧ ((hi h 1262 87) - 1) < nI 100
  rotate_left
  · rw [if_neg qk1] at hf; cases hf
  rw [if_pos qk1] at hf
  refine XS.go (s_ialde rfl (LY.lt L0 (by decide)) (LY.k1315 L0) (inLit (LY.n1315 L0) qk1.1 qk1.2 (by decide)) rfl) ?_
  cases hf
  exact XR.reti rfl rfl (fun hret => ⟨_, hret, ⟨rfl, rfl⟩, L0⟩)
def f_m_parts (h : XH) : Option (Int32 × XH) := (match f_m_sort h with | none => none | some r1 => (if r1.1 = 2 then (match f_m_of r1.2 with | none => none | some r5 => (if 0 ≤ r5.1 ∧ r5.1 < nI 12 then (some ((hi r5.2 1273 (Int32.toNatClampNeg r5.1)), r5.2)) else none)) else (if r1.1 = 3 then (match f_m_of r1.2 with | none => none | some r9 => (if 0 ≤ r9.1 ∧ r9.1 < nI 16 then (some ((hi r9.2 1283 (Int32.toNatClampNeg r9.1)), r9.2)) else none)) else (match f_m_place r1.2 with | none => none | some r13 => (match f_m_number r13.1 4 r13.2 with | none => none | some r16 => (some ((Int64.toInt32 r16.1), r16.2)))))))
set_option maxRecDepth 20000 in
theorem kf_m_parts {l : Launch} {G : XG} {d : Nat} {h : XH} {r : Int32 × XH} (L0 : LY h) (hf : f_m_parts h = some r) : XC l G xEX12_parts (d + 1) [.ref 1262] h (fun v h2 => (h2 = r.2 ∧ v = some (.int r.1)) ∧ LY r.2) := by
  refine XC.virt xvX12_parts (Nat.le_of_ble_eq_true rfl) ?_
  unfold f_m_parts at hf
  refine XS.go (s_aloadn rfl rfl rfl) ?_
  rcases e2 : f_m_sort h with _ | r1
  · rw [e2] at hf; cases hf
  rw [e2] at hf; dsimp only at hf
  refine r_callv rfl xvX12_sort xm12_515 (kf_m_sort (d := d) L0 e2) (LY.lt L0 (by decide)) (LY.k1262 L0) (by decide) rfl rfl (by omega) (by decide) (Nat.le_of_ble_eq_true rfl) ?_
  rintro _ _ ⟨⟨rfl, rfl⟩, L3⟩
  by_cases qs4_0 : r1.1 = 2
  · rw [if_pos qs4_0] at hf
    refine XS.go (s_lsw (tgt := 42) rfl (by decide) (by rw [qs4_0]; rfl) rfl) ?_
    refine XS.go (s_aloadn rfl rfl rfl) ?_
    refine XS.go (s_getr rfl xf12_40 (LY.lt L3 (by decide)) (LY.k1262 L3) (by decide) rfl (LY.r1262_21 L3)) ?_
    refine XS.go (s_aloadn rfl rfl rfl) ?_
    rcases e6 : f_m_of r1.2 with _ | r5
    · rw [e6] at hf; cases hf
    rw [e6] at hf; dsimp only at hf
    refine r_callv rfl xvX12_of xm12_518 (kf_m_of (d := d) L3 e6) (LY.lt L3 (by decide)) (LY.k1262 L3) (by decide) rfl rfl (by omega) (by decide) (Nat.le_of_ble_eq_true rfl) ?_
    rintro _ _ ⟨⟨rfl, rfl⟩, L7⟩
    by_cases qk8 : 0 ≤ r5.1 ∧ r5.1 < nI 12
    rotate_left
    · rw [if_neg qk8] at hf; cases hf
    rw [if_pos qk8] at hf
    refine XS.go (s_ialde rfl (LY.lt L7 (by decide)) (LY.k1273 L7) (inLit (LY.n1273 L7) qk8.1 qk8.2 (by decide)) rfl) ?_
    cases hf
    exact XR.reti rfl rfl (fun hret => ⟨_, hret, ⟨rfl, rfl⟩, L7⟩)
  rw [if_neg qs4_0] at hf
  by_cases qs4_1 : r1.1 = 3
  · rw [if_pos qs4_1] at hf
    refine XS.go (s_lsw (tgt := 32) rfl (by decide) (by rw [qs4_1]; rfl) rfl) ?_
    refine XS.go (s_aloadn rfl rfl rfl) ?_
    refine XS.go (s_getr rfl xf12_70 (LY.lt L3 (by decide)) (LY.k1262 L3) (by decide) rfl (LY.r1262_32 L3)) ?_
    refine XS.go (s_aloadn rfl rfl rfl) ?_
    rcases e10 : f_m_of r1.2 with _ | r9
    · rw [e10] at hf; cases hf
    rw [e10] at hf; dsimp only at hf
    refine r_callv rfl xvX12_of xm12_518 (kf_m_of (d := d) L3 e10) (LY.lt L3 (by decide)) (LY.k1262 L3) (by decide) rfl rfl (by omega) (by decide) (Nat.le_of_ble_eq_true rfl) ?_
    rintro _ _ ⟨⟨rfl, rfl⟩, L11⟩
    by_cases qk12 : 0 ≤ r9.1 ∧ r9.1 < nI 16
    rotate_left
    · rw [if_neg qk12] at hf; cases hf
    rw [if_pos qk12] at hf
    refine XS.go (s_ialde rfl (LY.lt L11 (by decide)) (LY.k1283 L11) (inLit (LY.n1283 L11) qk12.1 qk12.2 (by decide)) rfl) ?_
    cases hf
    exact XR.reti rfl rfl (fun hret => ⟨_, hret, ⟨rfl, rfl⟩, L11⟩)
  rw [if_neg qs4_1] at hf
  have qs4_z0 : ¬ (r1.1).toInt = 2 := fun z => qs4_0 (Int32.toInt_inj.mp z)
  have qs4_z1 : ¬ (r1.1).toInt = 3 := fun z => qs4_1 (Int32.toInt_inj.mp z)
  refine XS.go (s_lsw (tgt := 52) rfl (by decide) (by simp [Op.lookupswitch.offset, qs4_z0, qs4_z1]; rfl) rfl) ?_
  refine XS.go (s_aloadn rfl rfl rfl) ?_
  refine XS.go (s_aloadn rfl rfl rfl) ?_
  rcases e14 : f_m_place r1.2 with _ | r13
  · rw [e14] at hf; cases hf
  rw [e14] at hf; dsimp only at hf
  refine r_callv rfl xvX12_place xm12_521 (kf_m_place (d := d) L3 e14) (LY.lt L3 (by decide)) (LY.k1262 L3) (by decide) rfl rfl (by omega) (by decide) (Nat.le_of_ble_eq_true rfl) ?_
  rintro _ _ ⟨⟨rfl, rfl⟩, L15⟩
  refine XS.go (s_iconst (v := 4) rfl rfl) ?_
  rcases e17 : f_m_number r13.1 4 r13.2 with _ | r16
  · rw [e17] at hf; cases hf
  rw [e17] at hf; dsimp only at hf
  refine r_callv rfl xvX12_number xm12_467 (kf_m_number (d := d) L15 e17) (LY.lt L15 (by decide)) (LY.k1262 L15) (by decide) rfl rfl (by omega) (by decide) (Nat.le_of_ble_eq_true rfl) ?_
  rintro _ _ ⟨⟨rfl, rfl⟩, L18⟩
  refine XS.go (s_l2i rfl) ?_
  cases hf
  exact XR.reti rfl rfl (fun hret => ⟨_, hret, ⟨rfl, rfl⟩, L18⟩)
def f_m_told (a0 : Int32) (h : XH) : Option (Int32 × XH) := (if ¬ a0 = 3 then (if ¬ a0 = 2 then (if ¬ a0 = 5 then (some (4, h)) else (some (3, h))) else (some (2, h))) else (some (1, h)))
set_option maxRecDepth 20000 in
theorem kf_m_told {l : Launch} {G : XG} {d : Nat} {a0 : Int32} {h : XH} {r : Int32 × XH} (L0 : LY h) (hf : f_m_told a0 h = some r) : XC l G xEX12_told d [.int a0] h (fun v h2 => (h2 = r.2 ∧ v = some (.int r.1)) ∧ LY r.2) := by
  refine XC.stat xsX12_told (Nat.le_of_ble_eq_true rfl) ?_
  unfold f_m_told at hf
  refine XS.go (s_iloadn rfl rfl rfl) ?_
  refine XS.go (s_iconst (v := 3) rfl rfl) ?_
  refine r_icmp_ne (tgt := 9) rfl rfl (fun qc1 => ?_) (fun qc1 => ?_)
  · rw [if_pos qc1] at hf
    refine XS.go (s_iloadn rfl rfl rfl) ?_
    refine XS.go (s_iconst (v := 2) rfl rfl) ?_
    refine r_icmp_ne (tgt := 18) rfl rfl (fun qc2 => ?_) (fun qc2 => ?_)
    · rw [if_pos qc2] at hf
      refine XS.go (s_iloadn rfl rfl rfl) ?_
      refine XS.go (s_iconst (v := 5) rfl rfl) ?_
      refine r_icmp_ne (tgt := 27) rfl rfl (fun qc3 => ?_) (fun qc3 => ?_)
      · rw [if_pos qc3] at hf
        refine XS.go (s_iconst (v := 4) rfl rfl) ?_
        cases hf
        exact XR.reti rfl rfl (fun hret => ⟨_, hret, ⟨rfl, rfl⟩, L0⟩)
      · rw [if_neg qc3] at hf
        refine XS.go (s_iconst (v := 3) rfl rfl) ?_
        refine XS.go (s_goto (tgt := 28) rfl rfl) ?_
        cases hf
        exact XR.reti rfl rfl (fun hret => ⟨_, hret, ⟨rfl, rfl⟩, L0⟩)
    · rw [if_neg qc2] at hf
      refine XS.go (s_iconst (v := 2) rfl rfl) ?_
      refine XS.go (s_goto (tgt := 28) rfl rfl) ?_
      cases hf
      exact XR.reti rfl rfl (fun hret => ⟨_, hret, ⟨rfl, rfl⟩, L0⟩)
  · rw [if_neg qc1] at hf
    refine XS.go (s_iconst (v := 1) rfl rfl) ?_
    refine XS.go (s_goto (tgt := 28) rfl rfl) ?_
    cases hf
    exact XR.reti rfl rfl (fun hret => ⟨_, hret, ⟨rfl, rfl⟩, L0⟩)
def f_m_node (a0 : Int32) (h : XH) : Option (Int32 × XH) := (if ¬ (hi h 1262 81) = 0 then (if a0 = 0 then (match f_m_sort (hsi h 1262 0 0) with | none => none | some r3 => (match f_m_told r3.1 r3.2 with | none => none | some r6 => (some (r6.1, r6.2)))) else (if a0 = 1 then (match f_m_of (hsi h 1262 0 0) with | none => none | some r9 => (some (r9.1, r9.2))) else (if a0 = 2 then (match f_m_place (hsi h 1262 0 0) with | none => none | some r12 => (some (r12.1, r12.2))) else (if a0 = 3 then (match f_m_parts (hsi h 1262 0 0) with | none => none | some r15 => (some (r15.1, r15.2))) else (if a0 = 4 then (some (((hi h 1262 87) - 1), (hsi h 1262 0 0))) else (some ((-1), (hsi h 1262 0 0)))))))) else (some ((-1), (hsi h 1262 0 0))))
set_option maxRecDepth 20000 in
theorem kf_m_node {l : Launch} {G : XG} {d : Nat} {a0 : Int32} {h : XH} {r : Int32 × XH} (L0 : LY h) (hf : f_m_node a0 h = some r) : XC l G xEX12_node (d + 2) [.ref 1262, .int a0] h (fun v h2 => (h2 = r.2 ∧ v = some (.int r.1)) ∧ LY r.2) := by
  refine XC.virt xvX12_node (Nat.le_of_ble_eq_true rfl) ?_
  unfold f_m_node at hf
  refine XS.go (s_aloadn rfl rfl rfl) ?_
  refine XS.go (s_iconst (v := 0) rfl rfl) ?_
  refine XS.go (s_puti rfl xf12_175 (LY.lt L0 (by decide)) (LY.k1262 L0) (by decide) rfl (Or.inl rfl)) ?_
  refine XS.go (s_aloadn rfl rfl rfl) ?_
  refine XS.go (s_getze rfl xf12_360 (LY.lt (by simp only [LY_si, LY_sj]; exact L0) (by decide)) (LY.k1262 (by simp only [LY_si, LY_sj]; exact L0)) (by decide) rfl (hi_hsi_nk (by decide))) ?_
  refine r_if_ne (tgt := 14) rfl rfl (fun qc1 => ?_) (fun qc1 => ?_)
  · rw [if_pos qc1] at hf
    refine XS.go (s_iloadn rfl rfl rfl) ?_
    by_cases qs2_0 : a0 = 0
    · rw [if_pos qs2_0] at hf
      refine XS.go (s_tswI (tgt := 48) rfl (by rw [qs2_0]; decide) (by rw [qs2_0]; decide) (by rw [qs2_0]; rfl) rfl) ?_
      refine XS.go (s_aloadn rfl rfl rfl) ?_
      rcases e4 : f_m_sort (hsi h 1262 0 0) with _ | r3
      · rw [e4] at hf; cases hf
      rw [e4] at hf; dsimp only at hf
      refine r_callv rfl xvX12_sort xm12_515 (kf_m_sort (d := d) (by simp only [LY_si, LY_sj]; exact L0) e4) (LY.lt (by simp only [LY_si, LY_sj]; exact L0) (by decide)) (LY.k1262 (by simp only [LY_si, LY_sj]; exact L0)) (by decide) rfl rfl (by omega) (by decide) (Nat.le_of_ble_eq_true rfl) ?_
      rintro _ _ ⟨⟨rfl, rfl⟩, L5⟩
      rcases e7 : f_m_told r3.1 r3.2 with _ | r6
      · rw [e7] at hf; cases hf
      rw [e7] at hf; dsimp only at hf
      refine r_calls rfl xsX12_told xm12_524 (kf_m_told (d := d) L5 e7) rfl rfl (by omega) (by decide) (Nat.le_of_ble_eq_true rfl) ?_
      rintro _ _ ⟨⟨rfl, rfl⟩, L8⟩
      cases hf
      exact XR.reti rfl rfl (fun hret => ⟨_, hret, ⟨rfl, rfl⟩, L8⟩)
    rw [if_neg qs2_0] at hf
    by_cases qs2_1 : a0 = 1
    · rw [if_pos qs2_1] at hf
      refine XS.go (s_tswI (tgt := 56) rfl (by rw [qs2_1]; decide) (by rw [qs2_1]; decide) (by rw [qs2_1]; rfl) rfl) ?_
      refine XS.go (s_aloadn rfl rfl rfl) ?_
      rcases e10 : f_m_of (hsi h 1262 0 0) with _ | r9
      · rw [e10] at hf; cases hf
      rw [e10] at hf; dsimp only at hf
      refine r_callv rfl xvX12_of xm12_518 (kf_m_of (d := d) (by simp only [LY_si, LY_sj]; exact L0) e10) (LY.lt (by simp only [LY_si, LY_sj]; exact L0) (by decide)) (LY.k1262 (by simp only [LY_si, LY_sj]; exact L0)) (by decide) rfl rfl (by omega) (by decide) (Nat.le_of_ble_eq_true rfl) ?_
      rintro _ _ ⟨⟨rfl, rfl⟩, L11⟩
      cases hf
      exact XR.reti rfl rfl (fun hret => ⟨_, hret, ⟨rfl, rfl⟩, L11⟩)
    rw [if_neg qs2_1] at hf
    by_cases qs2_2 : a0 = 2
    · rw [if_pos qs2_2] at hf
      refine XS.go (s_tswI (tgt := 61) rfl (by rw [qs2_2]; decide) (by rw [qs2_2]; decide) (by rw [qs2_2]; rfl) rfl) ?_
      refine XS.go (s_aloadn rfl rfl rfl) ?_
      rcases e13 : f_m_place (hsi h 1262 0 0) with _ | r12
      · rw [e13] at hf; cases hf
      rw [e13] at hf; dsimp only at hf
      refine r_callv rfl xvX12_place xm12_521 (kf_m_place (d := d) (by simp only [LY_si, LY_sj]; exact L0) e13) (LY.lt (by simp only [LY_si, LY_sj]; exact L0) (by decide)) (LY.k1262 (by simp only [LY_si, LY_sj]; exact L0)) (by decide) rfl rfl (by omega) (by decide) (Nat.le_of_ble_eq_true rfl) ?_
      rintro _ _ ⟨⟨rfl, rfl⟩, L14⟩
      cases hf
      exact XR.reti rfl rfl (fun hret => ⟨_, hret, ⟨rfl, rfl⟩, L14⟩)
    rw [if_neg qs2_2] at hf
    by_cases qs2_3 : a0 = 3
    · rw [if_pos qs2_3] at hf
      refine XS.go (s_tswI (tgt := 66) rfl (by rw [qs2_3]; decide) (by rw [qs2_3]; decide) (by rw [qs2_3]; rfl) rfl) ?_
      refine XS.go (s_aloadn rfl rfl rfl) ?_
      rcases e16 : f_m_parts (hsi h 1262 0 0) with _ | r15
      · rw [e16] at hf; cases hf
      rw [e16] at hf; dsimp only at hf
      refine r_callv rfl xvX12_parts xm12_527 (kf_m_parts (d := d) (by simp only [LY_si, LY_sj]; exact L0) e16) (LY.lt (by simp only [LY_si, LY_sj]; exact L0) (by decide)) (LY.k1262 (by simp only [LY_si, LY_sj]; exact L0)) (by decide) rfl rfl (by omega) (by decide) (Nat.le_of_ble_eq_true rfl) ?_
      rintro _ _ ⟨⟨rfl, rfl⟩, L17⟩
      cases hf
      exact XR.reti rfl rfl (fun hret => ⟨_, hret, ⟨rfl, rfl⟩, L17⟩)
    rw [if_neg qs2_3] at hf
    by_cases qs2_4 : a0 = 4
    · rw [if_pos qs2_4] at hf
      refine XS.go (s_tswI (tgt := 71) rfl (by rw [qs2_4]; decide) (by rw [qs2_4]; decide) (by rw [qs2_4]; rfl) rfl) ?_
      refine XS.go (s_aloadn rfl rfl rfl) ?_
      refine XS.go (s_getie rfl xf12_500 (LY.lt (by simp only [LY_si, LY_sj]; exact L0) (by decide)) (LY.k1262 (by simp only [LY_si, LY_sj]; exact L0)) (by decide) rfl (hi_hsi_nk (by decide))) ?_
      refine XS.go (s_iconst (v := 1) rfl rfl) ?_
      refine XS.go (s_isub rfl) ?_
      cases hf
      exact XR.reti rfl rfl (fun hret => ⟨_, hret, ⟨rfl, rfl⟩, (by simp only [LY_si, LY_sj]; exact L0)⟩)
    rw [if_neg qs2_4] at hf
    have qs2_o : (a0).toInt < 0 ∨ 4 < (a0).toInt := by
      refine tsw_out 0 4 (by decide) ?_
      intro k h1 h2
      have z : k = 0 ∨ k = 1 ∨ k = 2 ∨ k = 3 ∨ k = 4 := by omega
      rcases z with rfl | rfl | rfl | rfl | rfl
      · exact qs2_0
      · exact qs2_1
      · exact qs2_2
      · exact qs2_3
      · exact qs2_4
    refine XS.go (s_tswO (tgt := 78) rfl qs2_o rfl) ?_
    refine XS.go (s_iconst (v := (-1)) rfl rfl) ?_
    cases hf
    exact XR.reti rfl rfl (fun hret => ⟨_, hret, ⟨rfl, rfl⟩, (by simp only [LY_si, LY_sj]; exact L0)⟩)
  · rw [if_neg qc1] at hf
    refine XS.go (s_iconst (v := (-1)) rfl rfl) ?_
    cases hf
    exact XR.reti rfl rfl (fun hret => ⟨_, hret, ⟨rfl, rfl⟩, (by simp only [LY_si, LY_sj]; exact L0)⟩)
def f_m_isPart (a0 : Int32) (h : XH) : Option (Int32 × XH) := (if (hi h 1262 81) = 0 then (some (0, h)) else (if a0 < 0 then (some (0, h)) else (match f_m_parts h with | none => none | some r3 => (if r3.1 ≤ a0 then (some (0, r3.2)) else (some (1, r3.2))))))
set_option maxRecDepth 20000 in
theorem kf_m_isPart {l : Launch} {G : XG} {d : Nat} {a0 : Int32} {h : XH} {r : Int32 × XH} (L0 : LY h) (hf : f_m_isPart a0 h = some r) : XC l G xEX12_isPart (d + 2) [.ref 1262, .int a0] h (fun v h2 => (h2 = r.2 ∧ v = some (.int r.1)) ∧ LY r.2) := by
  refine XC.virt xvX12_isPart (Nat.le_of_ble_eq_true rfl) ?_
  unfold f_m_isPart at hf
  refine XS.go (s_aloadn rfl rfl rfl) ?_
  refine XS.go (s_getze rfl xf12_360 (LY.lt L0 (by decide)) (LY.k1262 L0) (by decide) rfl rfl) ?_
  refine r_if_eq (tgt := 23) rfl rfl (fun qc1 => ?_) (fun qc1 => ?_)
  · rw [if_pos qc1] at hf
    refine XS.go (s_iconst (v := 0) rfl rfl) ?_
    cases hf
    exact XR.retz rfl rfl (by decide) (fun hret => ⟨_, hret, ⟨rfl, rfl⟩, L0⟩)
  · rw [if_neg qc1] at hf
    refine XS.go (s_iloadn rfl rfl rfl) ?_
    refine r_if_lt (tgt := 23) rfl rfl (fun qc2 => ?_) (fun qc2 => ?_)
    · rw [if_pos qc2] at hf
      refine XS.go (s_iconst (v := 0) rfl rfl) ?_
      cases hf
      exact XR.retz rfl rfl (by decide) (fun hret => ⟨_, hret, ⟨rfl, rfl⟩, L0⟩)
    · rw [if_neg qc2] at hf
      refine XS.go (s_iloadn rfl rfl rfl) ?_
      refine XS.go (s_aloadn rfl rfl rfl) ?_
      rcases e4 : f_m_parts h with _ | r3
      · rw [e4] at hf; cases hf
      rw [e4] at hf; dsimp only at hf
      refine r_callv rfl xvX12_parts xm12_527 (kf_m_parts (d := d) L0 e4) (LY.lt L0 (by decide)) (LY.k1262 L0) (by decide) rfl rfl (by omega) (by decide) (Nat.le_of_ble_eq_true rfl) ?_
      rintro _ _ ⟨⟨rfl, rfl⟩, L5⟩
      refine r_icmp_ge (tgt := 23) rfl rfl (fun qc6 => ?_) (fun qc6 => ?_)
      · rw [if_pos qc6] at hf
        refine XS.go (s_iconst (v := 0) rfl rfl) ?_
        cases hf
        exact XR.retz rfl rfl (by decide) (fun hret => ⟨_, hret, ⟨rfl, rfl⟩, L5⟩)
      · rw [if_neg qc6] at hf
        refine XS.go (s_iconst (v := 1) rfl rfl) ?_
        refine XS.go (s_goto (tgt := 24) rfl rfl) ?_
        cases hf
        exact XR.retz rfl rfl (by decide) (fun hret => ⟨_, hret, ⟨rfl, rfl⟩, L5⟩)
def f_m_list (a0 : Int32) (h : XH) : Option (Int32 × XH) := (match f_m_number a0 4 h with | none => none | some r1 => (some ((a0 - (Int64.toInt32 r1.1)), r1.2)))
set_option maxRecDepth 20000 in
theorem kf_m_list {l : Launch} {G : XG} {d : Nat} {a0 : Int32} {h : XH} {r : Int32 × XH} (L0 : LY h) (hf : f_m_list a0 h = some r) : XC l G xEX12_list (d + 1) [.ref 1262, .int a0] h (fun v h2 => (h2 = r.2 ∧ v = some (.int r.1)) ∧ LY r.2) := by
  refine XC.virt xvX12_list (Nat.le_of_ble_eq_true rfl) ?_
  unfold f_m_list at hf
  refine XS.go (s_iloadn rfl rfl rfl) ?_
  refine XS.go (s_aloadn rfl rfl rfl) ?_
  refine XS.go (s_iloadn rfl rfl rfl) ?_
  refine XS.go (s_iconst (v := 4) rfl rfl) ?_
  rcases e2 : f_m_number a0 4 h with _ | r1
  · rw [e2] at hf; cases hf
  rw [e2] at hf; dsimp only at hf
  refine r_callv rfl xvX12_number xm12_467 (kf_m_number (d := d) L0 e2) (LY.lt L0 (by decide)) (LY.k1262 L0) (by decide) rfl rfl (by omega) (by decide) (Nat.le_of_ble_eq_true rfl) ?_
  rintro _ _ ⟨⟨rfl, rfl⟩, L3⟩
  refine XS.go (s_l2i rfl) ?_
  refine XS.go (s_isub rfl) ?_
  cases hf
  exact XR.reti rfl rfl (fun hret => ⟨_, hret, ⟨rfl, rfl⟩, L3⟩)
def f_m_stored (a0 : Int32) (h : XH) : Option (Int32 × XH) := (match f_m_place h with | none => none | some r1 => (match f_m_list r1.1 r1.2 with | none => none | some r4 => (match f_m_far r4.1 a0 r4.2 with | none => none | some r7 => (if ¬ r7.1 = 0 then (some ((r1.1 + r7.1), r7.2)) else (some ((-1), r7.2))))))
set_option maxRecDepth 20000 in
theorem kf_m_stored {l : Launch} {G : XG} {d : Nat} {a0 : Int32} {h : XH} {r : Int32 × XH} (L0 : LY h) (hf : f_m_stored a0 h = some r) : XC l G xEX12_stored (d + 2) [.ref 1262, .int a0] h (fun v h2 => (h2 = r.2 ∧ v = some (.int r.1)) ∧ LY r.2) := by
  refine XC.virt xvX12_stored (Nat.le_of_ble_eq_true rfl) ?_
  unfold f_m_stored at hf
  refine XS.go (s_aloadn rfl rfl rfl) ?_
  rcases e2 : f_m_place h with _ | r1
  · rw [e2] at hf; cases hf
  rw [e2] at hf; dsimp only at hf
  refine r_callv rfl xvX12_place xm12_521 (kf_m_place (d := d) L0 e2) (LY.lt L0 (by decide)) (LY.k1262 L0) (by decide) rfl rfl (by omega) (by decide) (Nat.le_of_ble_eq_true rfl) ?_
  rintro _ _ ⟨⟨rfl, rfl⟩, L3⟩
  refine XS.go (s_istoren rfl rfl (Nat.le_of_ble_eq_true rfl)) ?_
  refine XS.go (s_aloadn rfl rfl rfl) ?_
  refine XS.go (s_aloadn rfl rfl rfl) ?_
  refine XS.go (s_iloadn rfl rfl rfl) ?_
  rcases e5 : f_m_list r1.1 r1.2 with _ | r4
  · rw [e5] at hf; cases hf
  rw [e5] at hf; dsimp only at hf
  refine r_callv rfl xvX12_list xm12_530 (kf_m_list (d := d) L3 e5) (LY.lt L3 (by decide)) (LY.k1262 L3) (by decide) rfl rfl (by omega) (by decide) (Nat.le_of_ble_eq_true rfl) ?_
  rintro _ _ ⟨⟨rfl, rfl⟩, L6⟩
  refine XS.go (s_iloadn rfl rfl rfl) ?_
  rcases e8 : f_m_far r4.1 a0 r4.2 with _ | r7
  · rw [e8] at hf; cases hf
  rw [e8] at hf; dsimp only at hf
  refine r_callv rfl xvX12_far xm12_484 (kf_m_far (d := d) L6 e8) (LY.lt L6 (by decide)) (LY.k1262 L6) (by decide) rfl rfl (by omega) (by decide) (Nat.le_of_ble_eq_true rfl) ?_
  rintro _ _ ⟨⟨rfl, rfl⟩, L9⟩
  refine XS.go (s_istoren rfl rfl (Nat.le_of_ble_eq_true rfl)) ?_
  refine XS.go (s_iloadn rfl rfl rfl) ?_
  refine r_if_ne (tgt := 24) rfl rfl (fun qc10 => ?_) (fun qc10 => ?_)
  · rw [if_pos qc10] at hf
    refine XS.go (s_iloadn rfl rfl rfl) ?_
    refine XS.go (s_iloadn rfl rfl rfl) ?_
    refine XS.go (s_iadd rfl) ?_
    cases hf
    exact XR.reti rfl rfl (fun hret => ⟨_, hret, ⟨rfl, rfl⟩, L9⟩)
  · rw [if_neg qc10] at hf
    refine XS.go (s_iconst (v := (-1)) rfl rfl) ?_
    refine XS.go (s_goto (tgt := 27) rfl rfl) ?_
    cases hf
    exact XR.reti rfl rfl (fun hret => ⟨_, hret, ⟨rfl, rfl⟩, L9⟩)
def f_m_row (a0 : Int32) (h : XH) : Option (Int32 × XH) := (match f_m_sort h with | none => none | some r1 => (if ¬ r1.1 = 3 then (match f_m_of r1.2 with | none => none | some r5 => (some (((12 * r5.1) + a0), r5.2))) else (match f_m_of r1.2 with | none => none | some r8 => (some (((16 * r8.1) + a0), r8.2)))))
set_option maxRecDepth 20000 in
theorem kf_m_row {l : Launch} {G : XG} {d : Nat} {a0 : Int32} {h : XH} {r : Int32 × XH} (L0 : LY h) (hf : f_m_row a0 h = some r) : XC l G xEX12_row (d + 1) [.ref 1262, .int a0] h (fun v h2 => (h2 = r.2 ∧ v = some (.int r.1)) ∧ LY r.2) := by
  refine XC.virt xvX12_row (Nat.le_of_ble_eq_true rfl) ?_
  unfold f_m_row at hf
  refine XS.go (s_aloadn rfl rfl rfl) ?_
  rcases e2 : f_m_sort h with _ | r1
  · rw [e2] at hf; cases hf
  rw [e2] at hf; dsimp only at hf
  refine r_callv rfl xvX12_sort xm12_515 (kf_m_sort (d := d) L0 e2) (LY.lt L0 (by decide)) (LY.k1262 L0) (by decide) rfl rfl (by omega) (by decide) (Nat.le_of_ble_eq_true rfl) ?_
  rintro _ _ ⟨⟨rfl, rfl⟩, L3⟩
  refine XS.go (s_iconst (v := 3) rfl rfl) ?_
  refine r_icmp_ne (tgt := 20) rfl rfl (fun qc4 => ?_) (fun qc4 => ?_)
  · rw [if_pos qc4] at hf
    refine XS.go (s_bipush (v := 12) rfl rfl) ?_
    refine XS.go (s_aloadn rfl rfl rfl) ?_
    rcases e6 : f_m_of r1.2 with _ | r5
    · rw [e6] at hf; cases hf
    rw [e6] at hf; dsimp only at hf
    refine r_callv rfl xvX12_of xm12_518 (kf_m_of (d := d) L3 e6) (LY.lt L3 (by decide)) (LY.k1262 L3) (by decide) rfl rfl (by omega) (by decide) (Nat.le_of_ble_eq_true rfl) ?_
    rintro _ _ ⟨⟨rfl, rfl⟩, L7⟩
    refine XS.go (s_imul rfl) ?_
    refine XS.go (s_iloadn rfl rfl rfl) ?_
    refine XS.go (s_iadd rfl) ?_
    cases hf
    exact XR.reti rfl rfl (fun hret => ⟨_, hret, ⟨rfl, rfl⟩, L7⟩)
  · rw [if_neg qc4] at hf
    refine XS.go (s_bipush (v := 16) rfl rfl) ?_
    refine XS.go (s_aloadn rfl rfl rfl) ?_
    rcases e9 : f_m_of r1.2 with _ | r8
    · rw [e9] at hf; cases hf
    rw [e9] at hf; dsimp only at hf
    refine r_callv rfl xvX12_of xm12_518 (kf_m_of (d := d) L3 e9) (LY.lt L3 (by decide)) (LY.k1262 L3) (by decide) rfl rfl (by omega) (by decide) (Nat.le_of_ble_eq_true rfl) ?_
    rintro _ _ ⟨⟨rfl, rfl⟩, L10⟩
    refine XS.go (s_imul rfl) ?_
    refine XS.go (s_iloadn rfl rfl rfl) ?_
    refine XS.go (s_iadd rfl) ?_
    refine XS.go (s_goto (tgt := 29) rfl rfl) ?_
    cases hf
    exact XR.reti rfl rfl (fun hret => ⟨_, hret, ⟨rfl, rfl⟩, L10⟩)
def f_m_partSort (a0 : Int32) (h : XH) : Option (Int32 × XH) := (match f_m_sort h with | none => none | some r1 => (if r1.1 = 2 then (match f_m_row a0 r1.2 with | none => none | some r5 => (if 0 ≤ r5.1 ∧ r5.1 < nI 144 then (some ((hi r5.2 1277 (Int32.toNatClampNeg r5.1)), r5.2)) else none)) else (if r1.1 = 3 then (match f_m_row a0 r1.2 with | none => none | some r9 => (if 0 ≤ r9.1 ∧ r9.1 < nI 256 then (some ((hi r9.2 1286 (Int32.toNatClampNeg r9.1)), r9.2)) else none)) else (if r1.1 = 4 then (some (0, r1.2)) else (if r1.1 = 5 then (if 0 ≤ ((hi r1.2 1262 87) - 1) ∧ ((hi r1.2 1262 87) - 1) < nI 100 then (some ((hi r1.2 1314 (Int32.toNatClampNeg ((hi r1.2 1262 87) - 1))), r1.2)) else none) else (some (0, r1.2)))))))
set_option maxRecDepth 20000 in
theorem kf_m_partSort {l : Launch} {G : XG} {d : Nat} {a0 : Int32} {h : XH} {r : Int32 × XH} (L0 : LY h) (hf : f_m_partSort a0 h = some r) : XC l G xEX12_partSort (d + 2) [.ref 1262, .int a0] h (fun v h2 => (h2 = r.2 ∧ v = some (.int r.1)) ∧ LY r.2) := by
  refine XC.virt xvX12_partSort (Nat.le_of_ble_eq_true rfl) ?_
  unfold f_m_partSort at hf
  refine XS.go (s_aloadn rfl rfl rfl) ?_
  rcases e2 : f_m_sort h with _ | r1
  · rw [e2] at hf; cases hf
  rw [e2] at hf; dsimp only at hf
  refine r_callv rfl xvX12_sort xm12_515 (kf_m_sort (d := d) L0 e2) (LY.lt L0 (by decide)) (LY.k1262 L0) (by decide) rfl rfl (by omega) (by decide) (Nat.le_of_ble_eq_true rfl) ?_
  rintro _ _ ⟨⟨rfl, rfl⟩, L3⟩
  by_cases qs4_0 : r1.1 = 2
  · rw [if_pos qs4_0] at hf
    refine XS.go (s_tswI (tgt := 47) rfl (by rw [qs4_0]; decide) (by rw [qs4_0]; decide) (by rw [qs4_0]; rfl) rfl) ?_
    refine XS.go (s_aloadn rfl rfl rfl) ?_
    refine XS.go (s_getr rfl xf12_52 (LY.lt L3 (by decide)) (LY.k1262 L3) (by decide) rfl (LY.r1262_25 L3)) ?_
    refine XS.go (s_aloadn rfl rfl rfl) ?_
    refine XS.go (s_iloadn rfl rfl rfl) ?_
    rcases e6 : f_m_row a0 r1.2 with _ | r5
    · rw [e6] at hf; cases hf
    rw [e6] at hf; dsimp only at hf
    refine r_callv rfl xvX12_row xm12_532 (kf_m_row (d := d) L3 e6) (LY.lt L3 (by decide)) (LY.k1262 L3) (by decide) rfl rfl (by omega) (by decide) (Nat.le_of_ble_eq_true rfl) ?_
    rintro _ _ ⟨⟨rfl, rfl⟩, L7⟩
    by_cases qk8 : 0 ≤ r5.1 ∧ r5.1 < nI 144
    rotate_left
    · rw [if_neg qk8] at hf; cases hf
    rw [if_pos qk8] at hf
    refine XS.go (s_ialde rfl (LY.lt L7 (by decide)) (LY.k1277 L7) (inLit (LY.n1277 L7) qk8.1 qk8.2 (by decide)) rfl) ?_
    cases hf
    exact XR.reti rfl rfl (fun hret => ⟨_, hret, ⟨rfl, rfl⟩, L7⟩)
  rw [if_neg qs4_0] at hf
  by_cases qs4_1 : r1.1 = 3
  · rw [if_pos qs4_1] at hf
    refine XS.go (s_tswI (tgt := 36) rfl (by rw [qs4_1]; decide) (by rw [qs4_1]; decide) (by rw [qs4_1]; rfl) rfl) ?_
    refine XS.go (s_aloadn rfl rfl rfl) ?_
    refine XS.go (s_getr rfl xf12_79 (LY.lt L3 (by decide)) (LY.k1262 L3) (by decide) rfl (LY.r1262_35 L3)) ?_
    refine XS.go (s_aloadn rfl rfl rfl) ?_
    refine XS.go (s_iloadn rfl rfl rfl) ?_
    rcases e10 : f_m_row a0 r1.2 with _ | r9
    · rw [e10] at hf; cases hf
    rw [e10] at hf; dsimp only at hf
    refine r_callv rfl xvX12_row xm12_532 (kf_m_row (d := d) L3 e10) (LY.lt L3 (by decide)) (LY.k1262 L3) (by decide) rfl rfl (by omega) (by decide) (Nat.le_of_ble_eq_true rfl) ?_
    rintro _ _ ⟨⟨rfl, rfl⟩, L11⟩
    by_cases qk12 : 0 ≤ r9.1 ∧ r9.1 < nI 256
    rotate_left
    · rw [if_neg qk12] at hf; cases hf
    rw [if_pos qk12] at hf
    refine XS.go (s_ialde rfl (LY.lt L11 (by decide)) (LY.k1286 L11) (inLit (LY.n1286 L11) qk12.1 qk12.2 (by decide)) rfl) ?_
    cases hf
    exact XR.reti rfl rfl (fun hret => ⟨_, hret, ⟨rfl, rfl⟩, L11⟩)
  rw [if_neg qs4_1] at hf
  by_cases qs4_2 : r1.1 = 4
  · rw [if_pos qs4_2] at hf
    refine XS.go (s_tswI (tgt := 70) rfl (by rw [qs4_2]; decide) (by rw [qs4_2]; decide) (by rw [qs4_2]; rfl) rfl) ?_
    refine XS.go (s_iconst (v := 0) rfl rfl) ?_
    cases hf
    exact XR.reti rfl rfl (fun hret => ⟨_, hret, ⟨rfl, rfl⟩, L3⟩)
  rw [if_neg qs4_2] at hf
  by_cases qs4_3 : r1.1 = 5
  · rw [if_pos qs4_3] at hf
    refine XS.go (s_tswI (tgt := 58) rfl (by rw [qs4_3]; decide) (by rw [qs4_3]; decide) (by rw [qs4_3]; rfl) rfl) ?_
    refine XS.go (s_aloadn rfl rfl rfl) ?_
    refine XS.go (s_getr rfl xf12_169 (LY.lt L3 (by decide)) (LY.k1262 L3) (by decide) rfl (LY.r1262_85 L3)) ?_
    refine XS.go (s_aloadn rfl rfl rfl) ?_
    refine XS.go (s_getie rfl xf12_500 (LY.lt L3 (by decide)) (LY.k1262 L3) (by decide) rfl rfl) ?_
    refine XS.go (s_iconst (v := 1) rfl rfl) ?_
    refine XS.go (s_isub rfl) ?_
    by_cases qk13 : 0 ≤ ((hi r1.2 1262 87) - 1) ∧ ((hi r1.2 1262 87) - 1) < nI 100
    rotate_left
    · rw [if_neg qk13] at hf; cases hf
    rw [if_pos qk13] at hf
    refine XS.go (s_ialde rfl (LY.lt L3 (by decide)) (LY.k1314 L3) (inLit (LY.n1314 L3) qk13.1 qk13.2 (by decide)) rfl) ?_
    cases hf
    exact XR.reti rfl rfl (fun hret => ⟨_, hret, ⟨rfl, rfl⟩, L3⟩)
  rw [if_neg qs4_3] at hf
  have qs4_o : (r1.1).toInt < 2 ∨ 5 < (r1.1).toInt := by
    refine tsw_out 2 5 (by decide) ?_
    intro k h1 h2
    have z : k = 2 ∨ k = 3 ∨ k = 4 ∨ k = 5 := by omega
    rcases z with rfl | rfl | rfl | rfl
    · exact qs4_0
    · exact qs4_1
    · exact qs4_2
    · exact qs4_3
  refine XS.go (s_tswO (tgt := 70) rfl qs4_o rfl) ?_
  refine XS.go (s_iconst (v := 0) rfl rfl) ?_
  cases hf
  exact XR.reti rfl rfl (fun hret => ⟨_, hret, ⟨rfl, rfl⟩, L3⟩)
def f_m_partOf (a0 : Int32) (h : XH) : Option (Int32 × XH) := (match f_m_sort h with | none => none | some r1 => (if r1.1 = 2 then (match f_m_row a0 r1.2 with | none => none | some r5 => (if 0 ≤ r5.1 ∧ r5.1 < nI 144 then (some ((hi r5.2 1278 (Int32.toNatClampNeg r5.1)), r5.2)) else none)) else (if r1.1 = 3 then (match f_m_row a0 r1.2 with | none => none | some r9 => (if 0 ≤ r9.1 ∧ r9.1 < nI 256 then (some ((hi r9.2 1287 (Int32.toNatClampNeg r9.1)), r9.2)) else none)) else (if r1.1 = 4 then (some (2, r1.2)) else (if r1.1 = 5 then (match f_m_of r1.2 with | none => none | some r13 => (some (r13.1, r13.2))) else (some (2, r1.2)))))))
set_option maxRecDepth 20000 in
theorem kf_m_partOf {l : Launch} {G : XG} {d : Nat} {a0 : Int32} {h : XH} {r : Int32 × XH} (L0 : LY h) (hf : f_m_partOf a0 h = some r) : XC l G xEX12_partOf (d + 2) [.ref 1262, .int a0] h (fun v h2 => (h2 = r.2 ∧ v = some (.int r.1)) ∧ LY r.2) := by
  refine XC.virt xvX12_partOf (Nat.le_of_ble_eq_true rfl) ?_
  unfold f_m_partOf at hf
  refine XS.go (s_aloadn rfl rfl rfl) ?_
  rcases e2 : f_m_sort h with _ | r1
  · rw [e2] at hf; cases hf
  rw [e2] at hf; dsimp only at hf
  refine r_callv rfl xvX12_sort xm12_515 (kf_m_sort (d := d) L0 e2) (LY.lt L0 (by decide)) (LY.k1262 L0) (by decide) rfl rfl (by omega) (by decide) (Nat.le_of_ble_eq_true rfl) ?_
  rintro _ _ ⟨⟨rfl, rfl⟩, L3⟩
  by_cases qs4_0 : r1.1 = 2
  · rw [if_pos qs4_0] at hf
    refine XS.go (s_tswI (tgt := 47) rfl (by rw [qs4_0]; decide) (by rw [qs4_0]; decide) (by rw [qs4_0]; rfl) rfl) ?_
    refine XS.go (s_aloadn rfl rfl rfl) ?_
    refine XS.go (s_getr rfl xf12_55 (LY.lt L3 (by decide)) (LY.k1262 L3) (by decide) rfl (LY.r1262_26 L3)) ?_
    refine XS.go (s_aloadn rfl rfl rfl) ?_
    refine XS.go (s_iloadn rfl rfl rfl) ?_
    rcases e6 : f_m_row a0 r1.2 with _ | r5
    · rw [e6] at hf; cases hf
    rw [e6] at hf; dsimp only at hf
    refine r_callv rfl xvX12_row xm12_532 (kf_m_row (d := d) L3 e6) (LY.lt L3 (by decide)) (LY.k1262 L3) (by decide) rfl rfl (by omega) (by decide) (Nat.le_of_ble_eq_true rfl) ?_
    rintro _ _ ⟨⟨rfl, rfl⟩, L7⟩
    by_cases qk8 : 0 ≤ r5.1 ∧ r5.1 < nI 144
    rotate_left
    · rw [if_neg qk8] at hf; cases hf
    rw [if_pos qk8] at hf
    refine XS.go (s_ialde rfl (LY.lt L7 (by decide)) (LY.k1278 L7) (inLit (LY.n1278 L7) qk8.1 qk8.2 (by decide)) rfl) ?_
    cases hf
    exact XR.reti rfl rfl (fun hret => ⟨_, hret, ⟨rfl, rfl⟩, L7⟩)
  rw [if_neg qs4_0] at hf
  by_cases qs4_1 : r1.1 = 3
  · rw [if_pos qs4_1] at hf
    refine XS.go (s_tswI (tgt := 36) rfl (by rw [qs4_1]; decide) (by rw [qs4_1]; decide) (by rw [qs4_1]; rfl) rfl) ?_
    refine XS.go (s_aloadn rfl rfl rfl) ?_
    refine XS.go (s_getr rfl xf12_82 (LY.lt L3 (by decide)) (LY.k1262 L3) (by decide) rfl (LY.r1262_36 L3)) ?_
    refine XS.go (s_aloadn rfl rfl rfl) ?_
    refine XS.go (s_iloadn rfl rfl rfl) ?_
    rcases e10 : f_m_row a0 r1.2 with _ | r9
    · rw [e10] at hf; cases hf
    rw [e10] at hf; dsimp only at hf
    refine r_callv rfl xvX12_row xm12_532 (kf_m_row (d := d) L3 e10) (LY.lt L3 (by decide)) (LY.k1262 L3) (by decide) rfl rfl (by omega) (by decide) (Nat.le_of_ble_eq_true rfl) ?_
    rintro _ _ ⟨⟨rfl, rfl⟩, L11⟩
    by_cases qk12 : 0 ≤ r9.1 ∧ r9.1 < nI 256
    rotate_left
    · rw [if_neg qk12] at hf; cases hf
    rw [if_pos qk12] at hf
    refine XS.go (s_ialde rfl (LY.lt L11 (by decide)) (LY.k1287 L11) (inLit (LY.n1287 L11) qk12.1 qk12.2 (by decide)) rfl) ?_
    cases hf
    exact XR.reti rfl rfl (fun hret => ⟨_, hret, ⟨rfl, rfl⟩, L11⟩)
  rw [if_neg qs4_1] at hf
  by_cases qs4_2 : r1.1 = 4
  · rw [if_pos qs4_2] at hf
    refine XS.go (s_tswI (tgt := 63) rfl (by rw [qs4_2]; decide) (by rw [qs4_2]; decide) (by rw [qs4_2]; rfl) rfl) ?_
    refine XS.go (s_iconst (v := 2) rfl rfl) ?_
    cases hf
    exact XR.reti rfl rfl (fun hret => ⟨_, hret, ⟨rfl, rfl⟩, L3⟩)
  rw [if_neg qs4_2] at hf
  by_cases qs4_3 : r1.1 = 5
  · rw [if_pos qs4_3] at hf
    refine XS.go (s_tswI (tgt := 58) rfl (by rw [qs4_3]; decide) (by rw [qs4_3]; decide) (by rw [qs4_3]; rfl) rfl) ?_
    refine XS.go (s_aloadn rfl rfl rfl) ?_
    rcases e14 : f_m_of r1.2 with _ | r13
    · rw [e14] at hf; cases hf
    rw [e14] at hf; dsimp only at hf
    refine r_callv rfl xvX12_of xm12_518 (kf_m_of (d := d) L3 e14) (LY.lt L3 (by decide)) (LY.k1262 L3) (by decide) rfl rfl (by omega) (by decide) (Nat.le_of_ble_eq_true rfl) ?_
    rintro _ _ ⟨⟨rfl, rfl⟩, L15⟩
    cases hf
    exact XR.reti rfl rfl (fun hret => ⟨_, hret, ⟨rfl, rfl⟩, L15⟩)
  rw [if_neg qs4_3] at hf
  have qs4_o : (r1.1).toInt < 2 ∨ 5 < (r1.1).toInt := by
    refine tsw_out 2 5 (by decide) ?_
    intro k h1 h2
    have z : k = 2 ∨ k = 3 ∨ k = 4 ∨ k = 5 := by omega
    rcases z with rfl | rfl | rfl | rfl
    · exact qs4_0
    · exact qs4_1
    · exact qs4_2
    · exact qs4_3
  refine XS.go (s_tswO (tgt := 63) rfl qs4_o rfl) ?_
  refine XS.go (s_iconst (v := 2) rfl rfl) ?_
  cases hf
  exact XR.reti rfl rfl (fun hret => ⟨_, hret, ⟨rfl, rfl⟩, L3⟩)
def b_m_partAt_123 (x1 : Int32) (h : XH) : Option (Int32 × XH) := (match f_m_place h with | none => none | some r1 => (some (((r1.1 + 4) + x1), r1.2)))
set_option maxRecDepth 20000 in
theorem kb_m_partAt_123 {l : Launch} {G : XG} {d : Nat} {x1 : Int32} {h : XH} {r : Int32 × XH} (L0 : LY h) (hf : b_m_partAt_123 x1 h = some r) : XR l G xEX12_partAt (d + 3) (123, [some (.ref 1262), some (.int x1), none, none], [], h) (fun C => ∃ v, xRet xEX12_partAt C v ∧ (C.2.2.2 = r.2 ∧ v = some (.int r.1)) ∧ LY r.2) := by
  unfold b_m_partAt_123 at hf
  refine XS.go (s_aloadn rfl rfl rfl) ?_
  rcases e2 : f_m_place h with _ | r1
  · rw [e2] at hf; cases hf
  rw [e2] at hf; dsimp only at hf
  refine r_callv rfl xvX12_place xm12_521 (kf_m_place (d := d) L0 e2) (LY.lt L0 (by decide)) (LY.k1262 L0) (by decide) rfl rfl (by omega) (by decide) (Nat.le_of_ble_eq_true rfl) ?_
  rintro _ _ ⟨⟨rfl, rfl⟩, L3⟩
  refine XS.go (s_iconst (v := 4) rfl rfl) ?_
  refine XS.go (s_iadd rfl) ?_
  refine XS.go (s_iloadn rfl rfl rfl) ?_
  refine XS.go (s_iadd rfl) ?_
  cases hf
  exact XR.reti rfl rfl (fun hret => ⟨_, hret, ⟨rfl, rfl⟩, L3⟩)
def b_m_partAt_111 (x1 : Int32) (y0 : Int32) (h : XH) : Option (Int32 × XH) := (match f_m_place h with | none => none | some r4 => (some (((r4.1 + 4) + (y0 * x1)), r4.2)))
set_option maxRecDepth 20000 in
theorem kb_m_partAt_111 {l : Launch} {G : XG} {d : Nat} {x1 : Int32} {y0 : Int32} {h : XH} {r : Int32 × XH} (L0 : LY h) (hf : b_m_partAt_111 x1 y0 h = some r) : XR l G xEX12_partAt (d + 3) (111, [some (.ref 1262), some (.int x1), none, none], [(.int y0)], h) (fun C => ∃ v, xRet xEX12_partAt C v ∧ (C.2.2.2 = r.2 ∧ v = some (.int r.1)) ∧ LY r.2) := by
  unfold b_m_partAt_111 at hf
  refine XS.go (s_istoren rfl rfl (Nat.le_of_ble_eq_true rfl)) ?_
  refine XS.go (s_aloadn rfl rfl rfl) ?_
  rcases e5 : f_m_place h with _ | r4
  · rw [e5] at hf; cases hf
  rw [e5] at hf; dsimp only at hf
  refine r_callv rfl xvX12_place xm12_521 (kf_m_place (d := d) L0 e5) (LY.lt L0 (by decide)) (LY.k1262 L0) (by decide) rfl rfl (by omega) (by decide) (Nat.le_of_ble_eq_true rfl) ?_
  rintro _ _ ⟨⟨rfl, rfl⟩, L6⟩
  refine XS.go (s_iconst (v := 4) rfl rfl) ?_
  refine XS.go (s_iadd rfl) ?_
  refine XS.go (s_iloadn rfl rfl rfl) ?_
  refine XS.go (s_iloadn rfl rfl rfl) ?_
  refine XS.go (s_imul rfl) ?_
  refine XS.go (s_iadd rfl) ?_
  cases hf
  exact XR.reti rfl rfl (fun hret => ⟨_, hret, ⟨rfl, rfl⟩, L6⟩)
def f_m_partAt (a0 : Int32) (h : XH) : Option (Int32 × XH) := (match f_m_sort h with | none => none | some r7 => (if r7.1 = 2 then (match f_m_place r7.2 with | none => none | some r11 => (match f_m_row a0 r11.2 with | none => none | some r14 => (if 0 ≤ r14.1 ∧ r14.1 < nI 144 then (some ((r11.1 + (hi r14.2 1279 (Int32.toNatClampNeg r14.1))), r14.2)) else none))) else (if r7.1 = 3 then (match f_m_row a0 r7.2 with | none => none | some r18 => (if 0 ≤ r18.1 ∧ r18.1 < nI 256 then (match f_m_stored (hi r18.2 1289 (Int32.toNatClampNeg r18.1)) r18.2 with | none => none | some r22 => (some (r22.1, r22.2))) else none)) else (if r7.1 = 4 then (b_m_partAt_123 a0 r7.2) else (if r7.1 = 5 then (if 0 ≤ ((hi r7.2 1262 87) - 1) ∧ ((hi r7.2 1262 87) - 1) < nI 100 then (if ¬ (hi r7.2 1314 (Int32.toNatClampNeg ((hi r7.2 1262 87) - 1))) = 0 then (if ¬ (hi r7.2 1314 (Int32.toNatClampNeg ((hi r7.2 1262 87) - 1))) = 2 then (b_m_partAt_111 a0 4 r7.2) else (match f_m_of r7.2 with | none => none | some r28 => (if 0 ≤ r28.1 ∧ r28.1 < nI 12 then (b_m_partAt_111 a0 (hi r28.2 1274 (Int32.toNatClampNeg r28.1)) r28.2) else none))) else (match f_m_of r7.2 with | none => none | some r32 => (match f_m_bytesOf r32.1 r32.2 with | none => none | some r35 => (b_m_partAt_111 a0 r35.1 r35.2)))) else none) else (b_m_partAt_123 a0 r7.2))))))
set_option maxRecDepth 20000 in
theorem kf_m_partAt {l : Launch} {G : XG} {d : Nat} {a0 : Int32} {h : XH} {r : Int32 × XH} (L0 : LY h) (hf : f_m_partAt a0 h = some r) : XC l G xEX12_partAt (d + 3) [.ref 1262, .int a0] h (fun v h2 => (h2 = r.2 ∧ v = some (.int r.1)) ∧ LY r.2) := by
  refine XC.virt xvX12_partAt (Nat.le_of_ble_eq_true rfl) ?_
  unfold f_m_partAt at hf
  refine XS.go (s_aloadn rfl rfl rfl) ?_
  rcases e8 : f_m_sort h with _ | r7
  · rw [e8] at hf; cases hf
  rw [e8] at hf; dsimp only at hf
  refine r_callv rfl xvX12_sort xm12_515 (kf_m_sort (d := d) L0 e8) (LY.lt L0 (by decide)) (LY.k1262 L0) (by decide) rfl rfl (by omega) (by decide) (Nat.le_of_ble_eq_true rfl) ?_
  rintro _ _ ⟨⟨rfl, rfl⟩, L9⟩
  by_cases qs10_0 : r7.1 = 2
  · rw [if_pos qs10_0] at hf
    refine XS.go (s_tswI (tgt := 51) rfl (by rw [qs10_0]; decide) (by rw [qs10_0]; decide) (by rw [qs10_0]; rfl) rfl) ?_
    refine XS.go (s_aloadn rfl rfl rfl) ?_
    rcases e12 : f_m_place r7.2 with _ | r11
    · rw [e12] at hf; cases hf
    rw [e12] at hf; dsimp only at hf
    refine r_callv rfl xvX12_place xm12_521 (kf_m_place (d := d) L9 e12) (LY.lt L9 (by decide)) (LY.k1262 L9) (by decide) rfl rfl (by omega) (by decide) (Nat.le_of_ble_eq_true rfl) ?_
    rintro _ _ ⟨⟨rfl, rfl⟩, L13⟩
    refine XS.go (s_aloadn rfl rfl rfl) ?_
    refine XS.go (s_getr rfl xf12_58 (LY.lt L13 (by decide)) (LY.k1262 L13) (by decide) rfl (LY.r1262_27 L13)) ?_
    refine XS.go (s_aloadn rfl rfl rfl) ?_
    refine XS.go (s_iloadn rfl rfl rfl) ?_
    rcases e15 : f_m_row a0 r11.2 with _ | r14
    · rw [e15] at hf; cases hf
    rw [e15] at hf; dsimp only at hf
    refine r_callv rfl xvX12_row xm12_532 (kf_m_row (d := d) L13 e15) (LY.lt L13 (by decide)) (LY.k1262 L13) (by decide) rfl rfl (by omega) (by decide) (Nat.le_of_ble_eq_true rfl) ?_
    rintro _ _ ⟨⟨rfl, rfl⟩, L16⟩
    by_cases qk17 : 0 ≤ r14.1 ∧ r14.1 < nI 144
    rotate_left
    · rw [if_neg qk17] at hf; cases hf
    rw [if_pos qk17] at hf
    refine XS.go (s_ialde rfl (LY.lt L16 (by decide)) (LY.k1279 L16) (inLit (LY.n1279 L16) qk17.1 qk17.2 (by decide)) rfl) ?_
    refine XS.go (s_iadd rfl) ?_
    cases hf
    exact XR.reti rfl rfl (fun hret => ⟨_, hret, ⟨rfl, rfl⟩, L16⟩)
  rw [if_neg qs10_0] at hf
  by_cases qs10_1 : r7.1 = 3
  · rw [if_pos qs10_1] at hf
    refine XS.go (s_tswI (tgt := 36) rfl (by rw [qs10_1]; decide) (by rw [qs10_1]; decide) (by rw [qs10_1]; rfl) rfl) ?_
    refine XS.go (s_aloadn rfl rfl rfl) ?_
    refine XS.go (s_aloadn rfl rfl rfl) ?_
    refine XS.go (s_getr rfl xf12_88 (LY.lt L9 (by decide)) (LY.k1262 L9) (by decide) rfl (LY.r1262_38 L9)) ?_
    refine XS.go (s_aloadn rfl rfl rfl) ?_
    refine XS.go (s_iloadn rfl rfl rfl) ?_
    rcases e19 : f_m_row a0 r7.2 with _ | r18
    · rw [e19] at hf; cases hf
    rw [e19] at hf; dsimp only at hf
    refine r_callv rfl xvX12_row xm12_532 (kf_m_row (d := d) L9 e19) (LY.lt L9 (by decide)) (LY.k1262 L9) (by decide) rfl rfl (by omega) (by decide) (Nat.le_of_ble_eq_true rfl) ?_
    rintro _ _ ⟨⟨rfl, rfl⟩, L20⟩
    by_cases qk21 : 0 ≤ r18.1 ∧ r18.1 < nI 256
    rotate_left
    · rw [if_neg qk21] at hf; cases hf
    rw [if_pos qk21] at hf
    refine XS.go (s_ialde rfl (LY.lt L20 (by decide)) (LY.k1289 L20) (inLit (LY.n1289 L20) qk21.1 qk21.2 (by decide)) rfl) ?_
    rcases e23 : f_m_stored (hi r18.2 1289 (Int32.toNatClampNeg r18.1)) r18.2 with _ | r22
    · rw [e23] at hf; cases hf
    rw [e23] at hf; dsimp only at hf
    refine r_callv rfl xvX12_stored xm12_534 (kf_m_stored (d := d) L20 e23) (LY.lt L20 (by decide)) (LY.k1262 L20) (by decide) rfl rfl (by omega) (by decide) (Nat.le_of_ble_eq_true rfl) ?_
    rintro _ _ ⟨⟨rfl, rfl⟩, L24⟩
    cases hf
    exact XR.reti rfl rfl (fun hret => ⟨_, hret, ⟨rfl, rfl⟩, L24⟩)
  rw [if_neg qs10_1] at hf
  by_cases qs10_2 : r7.1 = 4
  · rw [if_pos qs10_2] at hf
    refine XS.go (s_tswI (tgt := 123) rfl (by rw [qs10_2]; decide) (by rw [qs10_2]; decide) (by rw [qs10_2]; rfl) rfl) ?_
    exact XR.forget (L2 := [some (.ref 1262), some (.int a0), none, none]) ⟨rfl, ⟨rfl, trivial⟩⟩ (kb_m_partAt_123 L9 hf)
  rw [if_neg qs10_2] at hf
  by_cases qs10_3 : r7.1 = 5
  · rw [if_pos qs10_3] at hf
    refine XS.go (s_tswI (tgt := 67) rfl (by rw [qs10_3]; decide) (by rw [qs10_3]; decide) (by rw [qs10_3]; rfl) rfl) ?_
    refine XS.go (s_aloadn rfl rfl rfl) ?_
    refine XS.go (s_getr rfl xf12_169 (LY.lt L9 (by decide)) (LY.k1262 L9) (by decide) rfl (LY.r1262_85 L9)) ?_
    refine XS.go (s_aloadn rfl rfl rfl) ?_
    refine XS.go (s_getie rfl xf12_500 (LY.lt L9 (by decide)) (LY.k1262 L9) (by decide) rfl rfl) ?_
    refine XS.go (s_iconst (v := 1) rfl rfl) ?_
    refine XS.go (s_isub rfl) ?_
    by_cases qk25 : 0 ≤ ((hi r7.2 1262 87) - 1) ∧ ((hi r7.2 1262 87) - 1) < nI 100
    rotate_left
    · rw [if_neg qk25] at hf; cases hf
    rw [if_pos qk25] at hf
    refine XS.go (s_ialde rfl (LY.lt L9 (by decide)) (LY.k1314 L9) (inLit (LY.n1314 L9) qk25.1 qk25.2 (by decide)) rfl) ?_
    refine XS.go (s_istoren rfl rfl (Nat.le_of_ble_eq_true rfl)) ?_
    refine XS.go (s_iloadn rfl rfl rfl) ?_
    refine r_if_ne (tgt := 93) rfl rfl (fun qc26 => ?_) (fun qc26 => ?_)
    · rw [if_pos qc26] at hf
      refine XS.go (s_iloadn rfl rfl rfl) ?_
      refine XS.go (s_iconst (v := 2) rfl rfl) ?_
      refine r_icmp_ne (tgt := 110) rfl rfl (fun qc27 => ?_) (fun qc27 => ?_)
      · rw [if_pos qc27] at hf
        refine XS.go (s_iconst (v := 4) rfl rfl) ?_
        exact XR.forget (L2 := [some (.ref 1262), some (.int a0), none, none]) ⟨rfl, ⟨rfl, trivial⟩⟩ (kb_m_partAt_111 L9 hf)
      · rw [if_neg qc27] at hf
        refine XS.go (s_aloadn rfl rfl rfl) ?_
        refine XS.go (s_getr rfl xf12_43 (LY.lt L9 (by decide)) (LY.k1262 L9) (by decide) rfl (LY.r1262_22 L9)) ?_
        refine XS.go (s_aloadn rfl rfl rfl) ?_
        rcases e29 : f_m_of r7.2 with _ | r28
        · rw [e29] at hf; cases hf
        rw [e29] at hf; dsimp only at hf
        refine r_callv rfl xvX12_of xm12_518 (kf_m_of (d := d) L9 e29) (LY.lt L9 (by decide)) (LY.k1262 L9) (by decide) rfl rfl (by omega) (by decide) (Nat.le_of_ble_eq_true rfl) ?_
        rintro _ _ ⟨⟨rfl, rfl⟩, L30⟩
        by_cases qk31 : 0 ≤ r28.1 ∧ r28.1 < nI 12
        rotate_left
        · rw [if_neg qk31] at hf; cases hf
        rw [if_pos qk31] at hf
        refine XS.go (s_ialde rfl (LY.lt L30 (by decide)) (LY.k1274 L30) (inLit (LY.n1274 L30) qk31.1 qk31.2 (by decide)) rfl) ?_
        refine XS.go (s_goto (tgt := 111) rfl rfl) ?_
        exact XR.forget (L2 := [some (.ref 1262), some (.int a0), none, none]) ⟨rfl, ⟨rfl, trivial⟩⟩ (kb_m_partAt_111 L30 hf)
    · rw [if_neg qc26] at hf
      refine XS.go (s_aloadn rfl rfl rfl) ?_
      rcases e33 : f_m_of r7.2 with _ | r32
      · rw [e33] at hf; cases hf
      rw [e33] at hf; dsimp only at hf
      refine r_callv rfl xvX12_of xm12_518 (kf_m_of (d := d) L9 e33) (LY.lt L9 (by decide)) (LY.k1262 L9) (by decide) rfl rfl (by omega) (by decide) (Nat.le_of_ble_eq_true rfl) ?_
      rintro _ _ ⟨⟨rfl, rfl⟩, L34⟩
      rcases e36 : f_m_bytesOf r32.1 r32.2 with _ | r35
      · rw [e36] at hf; cases hf
      rw [e36] at hf; dsimp only at hf
      refine r_calls rfl xsX12_bytesOf xm12_315 (kf_m_bytesOf (d := d) L34 e36) rfl rfl (by omega) (by decide) (Nat.le_of_ble_eq_true rfl) ?_
      rintro _ _ ⟨⟨rfl, rfl⟩, L37⟩
      refine XS.go (s_goto (tgt := 111) rfl rfl) ?_
      exact XR.forget (L2 := [some (.ref 1262), some (.int a0), none, none]) ⟨rfl, ⟨rfl, trivial⟩⟩ (kb_m_partAt_111 L37 hf)
  rw [if_neg qs10_3] at hf
  have qs10_o : (r7.1).toInt < 2 ∨ 5 < (r7.1).toInt := by
    refine tsw_out 2 5 (by decide) ?_
    intro k h1 h2
    have z : k = 2 ∨ k = 3 ∨ k = 4 ∨ k = 5 := by omega
    rcases z with rfl | rfl | rfl | rfl
    · exact qs10_0
    · exact qs10_1
    · exact qs10_2
    · exact qs10_3
  refine XS.go (s_tswO (tgt := 123) rfl qs10_o rfl) ?_
  exact XR.forget (L2 := [some (.ref 1262), some (.int a0), none, none]) ⟨rfl, ⟨rfl, trivial⟩⟩ (kb_m_partAt_123 L9 hf)
def f_m_which (a0 : Int32) (h : XH) : Option (Int32 × XH) := (match f_m_partAt a0 h with | none => none | some r1 => (if ¬ r1.1 = (-1) then (if 0 ≤ r1.1 ∧ r1.1 < nI 4000 then (some ((hi r1.2 1310 (Int32.toNatClampNeg r1.1)), r1.2)) else none) else (some (0, r1.2))))
set_option maxRecDepth 20000 in
theorem kf_m_which {l : Launch} {G : XG} {d : Nat} {a0 : Int32} {h : XH} {r : Int32 × XH} (L0 : LY h) (hf : f_m_which a0 h = some r) : XC l G xEX12_which (d + 4) [.ref 1262, .int a0] h (fun v h2 => (h2 = r.2 ∧ v = some (.int r.1)) ∧ LY r.2) := by
  refine XC.virt xvX12_which (Nat.le_of_ble_eq_true rfl) ?_
  unfold f_m_which at hf
  refine XS.go (s_aloadn rfl rfl rfl) ?_
  refine XS.go (s_iloadn rfl rfl rfl) ?_
  rcases e2 : f_m_partAt a0 h with _ | r1
  · rw [e2] at hf; cases hf
  rw [e2] at hf; dsimp only at hf
  refine r_callv rfl xvX12_partAt xm12_537 (kf_m_partAt (d := d) L0 e2) (LY.lt L0 (by decide)) (LY.k1262 L0) (by decide) rfl rfl (by omega) (by decide) (Nat.le_of_ble_eq_true rfl) ?_
  rintro _ _ ⟨⟨rfl, rfl⟩, L3⟩
  refine XS.go (s_istoren rfl rfl (Nat.le_of_ble_eq_true rfl)) ?_
  refine XS.go (s_iloadn rfl rfl rfl) ?_
  refine XS.go (s_iconst (v := (-1)) rfl rfl) ?_
  refine r_icmp_ne (tgt := 15) rfl rfl (fun qc4 => ?_) (fun qc4 => ?_)
  · rw [if_pos qc4] at hf
    refine XS.go (s_aloadn rfl rfl rfl) ?_
    refine XS.go (s_getr rfl xf12_157 (LY.lt L3 (by decide)) (LY.k1262 L3) (by decide) rfl (LY.r1262_74 L3)) ?_
    refine XS.go (s_iloadn rfl rfl rfl) ?_
    by_cases qk5 : 0 ≤ r1.1 ∧ r1.1 < nI 4000
    rotate_left
    · rw [if_neg qk5] at hf; cases hf
    rw [if_pos qk5] at hf
    refine XS.go (s_ialde rfl (LY.lt L3 (by decide)) (LY.k1310 L3) (inLit (LY.n1310 L3) qk5.1 qk5.2 (by decide)) rfl) ?_
    cases hf
    exact XR.reti rfl rfl (fun hret => ⟨_, hret, ⟨rfl, rfl⟩, L3⟩)
  · rw [if_neg qc4] at hf
    refine XS.go (s_iconst (v := 0) rfl rfl) ?_
    refine XS.go (s_goto (tgt := 21) rfl rfl) ?_
    cases hf
    exact XR.reti rfl rfl (fun hret => ⟨_, hret, ⟨rfl, rfl⟩, L3⟩)
def f_m_has (a0 : Int32) (h : XH) : Option (Int32 × XH) := (match f_m_isPart a0 (hsi h 1262 0 0) with | none => none | some r1 => (if ¬ r1.1 = 0 then (match f_m_partSort a0 r1.2 with | none => none | some r5 => (if ¬ r5.1 = 4 then (match f_m_partAt a0 r5.2 with | none => none | some r9 => (if ¬ r9.1 = (-1) then (some (1, r9.2)) else (some (0, r9.2)))) else (match f_m_which a0 r5.2 with | none => none | some r13 => (if ¬ r13.1 = 0 then (some (1, r13.2)) else (some (0, r13.2)))))) else (some ((-1), r1.2))))
set_option maxRecDepth 20000 in
theorem kf_m_has {l : Launch} {G : XG} {d : Nat} {a0 : Int32} {h : XH} {r : Int32 × XH} (L0 : LY h) (hf : f_m_has a0 h = some r) : XC l G xEX12_has (d + 5) [.ref 1262, .int a0] h (fun v h2 => (h2 = r.2 ∧ v = some (.int r.1)) ∧ LY r.2) := by
  refine XC.virt xvX12_has (Nat.le_of_ble_eq_true rfl) ?_
  unfold f_m_has at hf
  refine XS.go (s_aloadn rfl rfl rfl) ?_
  refine XS.go (s_iconst (v := 0) rfl rfl) ?_
  refine XS.go (s_puti rfl xf12_175 (LY.lt L0 (by decide)) (LY.k1262 L0) (by decide) rfl (Or.inl rfl)) ?_
  refine XS.go (s_aloadn rfl rfl rfl) ?_
  refine XS.go (s_iloadn rfl rfl rfl) ?_
  rcases e2 : f_m_isPart a0 (hsi h 1262 0 0) with _ | r1
  · rw [e2] at hf; cases hf
  rw [e2] at hf; dsimp only at hf
  refine r_callv rfl xvX12_isPart xm12_540 (kf_m_isPart (d := d) (by simp only [LY_si, LY_sj]; exact L0) e2) (LY.lt (by simp only [LY_si, LY_sj]; exact L0) (by decide)) (LY.k1262 (by simp only [LY_si, LY_sj]; exact L0)) (by decide) rfl rfl (by omega) (by decide) (Nat.le_of_ble_eq_true rfl) ?_
  rintro _ _ ⟨⟨rfl, rfl⟩, L3⟩
  refine r_if_ne (tgt := 15) rfl rfl (fun qc4 => ?_) (fun qc4 => ?_)
  · rw [if_pos qc4] at hf
    refine XS.go (s_aloadn rfl rfl rfl) ?_
    refine XS.go (s_iloadn rfl rfl rfl) ?_
    rcases e6 : f_m_partSort a0 r1.2 with _ | r5
    · rw [e6] at hf; cases hf
    rw [e6] at hf; dsimp only at hf
    refine r_callv rfl xvX12_partSort xm12_543 (kf_m_partSort (d := d) L3 e6) (LY.lt L3 (by decide)) (LY.k1262 L3) (by decide) rfl rfl (by omega) (by decide) (Nat.le_of_ble_eq_true rfl) ?_
    rintro _ _ ⟨⟨rfl, rfl⟩, L7⟩
    refine XS.go (s_iconst (v := 4) rfl rfl) ?_
    refine r_icmp_ne (tgt := 38) rfl rfl (fun qc8 => ?_) (fun qc8 => ?_)
    · rw [if_pos qc8] at hf
      refine XS.go (s_aloadn rfl rfl rfl) ?_
      refine XS.go (s_iloadn rfl rfl rfl) ?_
      rcases e10 : f_m_partAt a0 r5.2 with _ | r9
      · rw [e10] at hf; cases hf
      rw [e10] at hf; dsimp only at hf
      refine r_callv rfl xvX12_partAt xm12_537 (kf_m_partAt (d := d) L7 e10) (LY.lt L7 (by decide)) (LY.k1262 L7) (by decide) rfl rfl (by omega) (by decide) (Nat.le_of_ble_eq_true rfl) ?_
      rintro _ _ ⟨⟨rfl, rfl⟩, L11⟩
      refine XS.go (s_iconst (v := (-1)) rfl rfl) ?_
      refine r_icmp_ne (tgt := 51) rfl rfl (fun qc12 => ?_) (fun qc12 => ?_)
      · rw [if_pos qc12] at hf
        refine XS.go (s_iconst (v := 1) rfl rfl) ?_
        cases hf
        exact XR.reti rfl rfl (fun hret => ⟨_, hret, ⟨rfl, rfl⟩, L11⟩)
      · rw [if_neg qc12] at hf
        refine XS.go (s_iconst (v := 0) rfl rfl) ?_
        refine XS.go (s_goto (tgt := 52) rfl rfl) ?_
        cases hf
        exact XR.reti rfl rfl (fun hret => ⟨_, hret, ⟨rfl, rfl⟩, L11⟩)
    · rw [if_neg qc8] at hf
      refine XS.go (s_aloadn rfl rfl rfl) ?_
      refine XS.go (s_iloadn rfl rfl rfl) ?_
      rcases e14 : f_m_which a0 r5.2 with _ | r13
      · rw [e14] at hf; cases hf
      rw [e14] at hf; dsimp only at hf
      refine r_callv rfl xvX12_which xm12_546 (kf_m_which (d := d) L7 e14) (LY.lt L7 (by decide)) (LY.k1262 L7) (by decide) rfl rfl (by omega) (by decide) (Nat.le_of_ble_eq_true rfl) ?_
      rintro _ _ ⟨⟨rfl, rfl⟩, L15⟩
      refine r_if_ne (tgt := 36) rfl rfl (fun qc16 => ?_) (fun qc16 => ?_)
      · rw [if_pos qc16] at hf
        refine XS.go (s_iconst (v := 1) rfl rfl) ?_
        cases hf
        exact XR.reti rfl rfl (fun hret => ⟨_, hret, ⟨rfl, rfl⟩, L15⟩)
      · rw [if_neg qc16] at hf
        refine XS.go (s_iconst (v := 0) rfl rfl) ?_
        refine XS.go (s_goto (tgt := 37) rfl rfl) ?_
        cases hf
        exact XR.reti rfl rfl (fun hret => ⟨_, hret, ⟨rfl, rfl⟩, L15⟩)
  · rw [if_neg qc4] at hf
    refine XS.go (s_iconst (v := (-1)) rfl rfl) ?_
    cases hf
    exact XR.reti rfl rfl (fun hret => ⟨_, hret, ⟨rfl, rfl⟩, L3⟩)
def f_m_value (a0 : Int32) (a1 : Int32) (h : XH) : Option (Int64 × XH) := (match f_m_bytesOf a0 h with | none => none | some r1 => (match f_m_number a1 r1.1 r1.2 with | none => none | some r4 => (if a0 = 1 then (some ((Int32.toInt64 (Int8.toInt32 (Int32.toInt8 (Int64.toInt32 r4.1)))), r4.2)) else (if a0 = 2 then (some (r4.1, r4.2)) else (if a0 = 3 then (some ((Int32.toInt64 (Int16.toInt32 (Int32.toInt16 (Int64.toInt32 r4.1)))), r4.2)) else (if a0 = 4 then (some (r4.1, r4.2)) else (if a0 = 5 then (some ((Int32.toInt64 (Int64.toInt32 r4.1)), r4.2)) else (if a0 = 6 then (some (r4.1, r4.2)) else (if a0 = 7 then (some (r4.1, r4.2)) else (if a0 = 8 then (some (r4.1, r4.2)) else (if a0 = 9 then (some ((Int32.toInt64 (Int64.toInt32 r4.1)), r4.2)) else (some (r4.1, r4.2)))))))))))))
set_option maxRecDepth 20000 in
theorem kf_m_value {l : Launch} {G : XG} {d : Nat} {a0 : Int32} {a1 : Int32} {h : XH} {r : Int64 × XH} (L0 : LY h) (hf : f_m_value a0 a1 h = some r) : XC l G xEX12_value (d + 1) [.ref 1262, .int a0, .int a1] h (fun v h2 => (h2 = r.2 ∧ v = some (.long r.1)) ∧ LY r.2) := by
  refine XC.virt xvX12_value (Nat.le_of_ble_eq_true rfl) ?_
  unfold f_m_value at hf
  refine XS.go (s_aloadn rfl rfl rfl) ?_
  refine XS.go (s_iloadn rfl rfl rfl) ?_
  refine XS.go (s_iloadn rfl rfl rfl) ?_
  rcases e2 : f_m_bytesOf a0 h with _ | r1
  · rw [e2] at hf; cases hf
  rw [e2] at hf; dsimp only at hf
  refine r_calls rfl xsX12_bytesOf xm12_315 (kf_m_bytesOf (d := d) L0 e2) rfl rfl (by omega) (by decide) (Nat.le_of_ble_eq_true rfl) ?_
  rintro _ _ ⟨⟨rfl, rfl⟩, L3⟩
  rcases e5 : f_m_number a1 r1.1 r1.2 with _ | r4
  · rw [e5] at hf; cases hf
  rw [e5] at hf; dsimp only at hf
  refine r_callv rfl xvX12_number xm12_467 (kf_m_number (d := d) L3 e5) (LY.lt L3 (by decide)) (LY.k1262 L3) (by decide) rfl rfl (by omega) (by decide) (Nat.le_of_ble_eq_true rfl) ?_
  rintro _ _ ⟨⟨rfl, rfl⟩, L6⟩
  refine XS.go (s_lstoren rfl rfl (Nat.le_of_ble_eq_true rfl)) ?_
  refine XS.go (s_iloadn rfl rfl rfl) ?_
  by_cases qs7_0 : a0 = 1
  · rw [if_pos qs7_0] at hf
    refine XS.go (s_tswI (tgt := 60) rfl (by rw [qs7_0]; decide) (by rw [qs7_0]; decide) (by rw [qs7_0]; rfl) rfl) ?_
    refine XS.go (s_lloadn rfl rfl rfl) ?_
    refine XS.go (s_l2i rfl) ?_
    refine XS.go (s_i2b rfl) ?_
    refine XS.go (s_i2l rfl) ?_
    cases hf
    exact XR.retl rfl rfl (fun hret => ⟨_, hret, ⟨rfl, rfl⟩, L6⟩)
  rw [if_neg qs7_0] at hf
  by_cases qs7_1 : a0 = 2
  · rw [if_pos qs7_1] at hf
    refine XS.go (s_tswI (tgt := 78) rfl (by rw [qs7_1]; decide) (by rw [qs7_1]; decide) (by rw [qs7_1]; rfl) rfl) ?_
    refine XS.go (s_lloadn rfl rfl rfl) ?_
    cases hf
    exact XR.retl rfl rfl (fun hret => ⟨_, hret, ⟨rfl, rfl⟩, L6⟩)
  rw [if_neg qs7_1] at hf
  by_cases qs7_2 : a0 = 3
  · rw [if_pos qs7_2] at hf
    refine XS.go (s_tswI (tgt := 65) rfl (by rw [qs7_2]; decide) (by rw [qs7_2]; decide) (by rw [qs7_2]; rfl) rfl) ?_
    refine XS.go (s_lloadn rfl rfl rfl) ?_
    refine XS.go (s_l2i rfl) ?_
    refine XS.go (s_i2s rfl) ?_
    refine XS.go (s_i2l rfl) ?_
    cases hf
    exact XR.retl rfl rfl (fun hret => ⟨_, hret, ⟨rfl, rfl⟩, L6⟩)
  rw [if_neg qs7_2] at hf
  by_cases qs7_3 : a0 = 4
  · rw [if_pos qs7_3] at hf
    refine XS.go (s_tswI (tgt := 78) rfl (by rw [qs7_3]; decide) (by rw [qs7_3]; decide) (by rw [qs7_3]; rfl) rfl) ?_
    refine XS.go (s_lloadn rfl rfl rfl) ?_
    cases hf
    exact XR.retl rfl rfl (fun hret => ⟨_, hret, ⟨rfl, rfl⟩, L6⟩)
  rw [if_neg qs7_3] at hf
  by_cases qs7_4 : a0 = 5
  · rw [if_pos qs7_4] at hf
    refine XS.go (s_tswI (tgt := 70) rfl (by rw [qs7_4]; decide) (by rw [qs7_4]; decide) (by rw [qs7_4]; rfl) rfl) ?_
    refine XS.go (s_lloadn rfl rfl rfl) ?_
    refine XS.go (s_l2i rfl) ?_
    refine XS.go (s_i2l rfl) ?_
    cases hf
    exact XR.retl rfl rfl (fun hret => ⟨_, hret, ⟨rfl, rfl⟩, L6⟩)
  rw [if_neg qs7_4] at hf
  by_cases qs7_5 : a0 = 6
  · rw [if_pos qs7_5] at hf
    refine XS.go (s_tswI (tgt := 78) rfl (by rw [qs7_5]; decide) (by rw [qs7_5]; decide) (by rw [qs7_5]; rfl) rfl) ?_
    refine XS.go (s_lloadn rfl rfl rfl) ?_
    cases hf
    exact XR.retl rfl rfl (fun hret => ⟨_, hret, ⟨rfl, rfl⟩, L6⟩)
  rw [if_neg qs7_5] at hf
  by_cases qs7_6 : a0 = 7
  · rw [if_pos qs7_6] at hf
    refine XS.go (s_tswI (tgt := 78) rfl (by rw [qs7_6]; decide) (by rw [qs7_6]; decide) (by rw [qs7_6]; rfl) rfl) ?_
    refine XS.go (s_lloadn rfl rfl rfl) ?_
    cases hf
    exact XR.retl rfl rfl (fun hret => ⟨_, hret, ⟨rfl, rfl⟩, L6⟩)
  rw [if_neg qs7_6] at hf
  by_cases qs7_7 : a0 = 8
  · rw [if_pos qs7_7] at hf
    refine XS.go (s_tswI (tgt := 78) rfl (by rw [qs7_7]; decide) (by rw [qs7_7]; decide) (by rw [qs7_7]; rfl) rfl) ?_
    refine XS.go (s_lloadn rfl rfl rfl) ?_
    cases hf
    exact XR.retl rfl rfl (fun hret => ⟨_, hret, ⟨rfl, rfl⟩, L6⟩)
  rw [if_neg qs7_7] at hf
  by_cases qs7_8 : a0 = 9
  · rw [if_pos qs7_8] at hf
    refine XS.go (s_tswI (tgt := 74) rfl (by rw [qs7_8]; decide) (by rw [qs7_8]; decide) (by rw [qs7_8]; rfl) rfl) ?_
    refine XS.go (s_lloadn rfl rfl rfl) ?_
    refine XS.go (s_l2i rfl) ?_
    refine XS.go (s_i2l rfl) ?_
    cases hf
    exact XR.retl rfl rfl (fun hret => ⟨_, hret, ⟨rfl, rfl⟩, L6⟩)
  rw [if_neg qs7_8] at hf
  have qs7_o : (a0).toInt < 1 ∨ 9 < (a0).toInt := by
    refine tsw_out 1 9 (by decide) ?_
    intro k h1 h2
    have z : k = 1 ∨ k = 2 ∨ k = 3 ∨ k = 4 ∨ k = 5 ∨ k = 6 ∨ k = 7 ∨ k = 8 ∨ k = 9 := by omega
    rcases z with rfl | rfl | rfl | rfl | rfl | rfl | rfl | rfl | rfl
    · exact qs7_0
    · exact qs7_1
    · exact qs7_2
    · exact qs7_3
    · exact qs7_4
    · exact qs7_5
    · exact qs7_6
    · exact qs7_7
    · exact qs7_8
  refine XS.go (s_tswO (tgt := 78) rfl qs7_o rfl) ?_
  refine XS.go (s_lloadn rfl rfl rfl) ?_
  cases hf
  exact XR.retl rfl rfl (fun hret => ⟨_, hret, ⟨rfl, rfl⟩, L6⟩)
def b_m_read_39 (x1 : Int32) (x2 : Int32) (h : XH) : Option (Int64 × XH) := (if ¬ x2 = 4 then (match f_m_partAt x1 h with | none => none | some r2 => (if ¬ r2.1 = (-1) then (match f_m_partOf x1 r2.2 with | none => none | some r6 => (match f_m_value r6.1 r2.1 r6.2 with | none => none | some r9 => (some (r9.1, r9.2)))) else (match f_m_row x1 r2.2 with | none => none | some r12 => (if 0 ≤ r12.1 ∧ r12.1 < nI 256 then (some ((hj r12.2 1291 (Int32.toNatClampNeg r12.1)), r12.2)) else none)))) else (match f_m_which x1 h with | none => none | some r16 => (some ((Int32.toInt64 r16.1), r16.2))))
set_option maxRecDepth 20000 in
theorem kb_m_read_39 {l : Launch} {G : XG} {d : Nat} {x1 : Int32} {x2 : Int32} {h : XH} {r : Int64 × XH} (L0 : LY h) (hf : b_m_read_39 x1 x2 h = some r) : XR l G xEX12_read (d + 5) (39, [some (.ref 1262), some (.int x1), some (.int x2), none], [], h) (fun C => ∃ v, xRet xEX12_read C v ∧ (C.2.2.2 = r.2 ∧ v = some (.long r.1)) ∧ LY r.2) := by
  unfold b_m_read_39 at hf
  refine XS.go (s_iloadn rfl rfl rfl) ?_
  refine XS.go (s_iconst (v := 4) rfl rfl) ?_
  refine r_icmp_ne (tgt := 51) rfl rfl (fun qc1 => ?_) (fun qc1 => ?_)
  · rw [if_pos qc1] at hf
    refine XS.go (s_aloadn rfl rfl rfl) ?_
    refine XS.go (s_iloadn rfl rfl rfl) ?_
    rcases e3 : f_m_partAt x1 h with _ | r2
    · rw [e3] at hf; cases hf
    rw [e3] at hf; dsimp only at hf
    refine r_callv rfl xvX12_partAt xm12_537 (kf_m_partAt (d := d) L0 e3) (LY.lt L0 (by decide)) (LY.k1262 L0) (by decide) rfl rfl (by omega) (by decide) (Nat.le_of_ble_eq_true rfl) ?_
    rintro _ _ ⟨⟨rfl, rfl⟩, L4⟩
    refine XS.go (s_istoren rfl rfl (Nat.le_of_ble_eq_true rfl)) ?_
    refine XS.go (s_iloadn rfl rfl rfl) ?_
    refine XS.go (s_iconst (v := (-1)) rfl rfl) ?_
    refine r_icmp_ne (tgt := 75) rfl rfl (fun qc5 => ?_) (fun qc5 => ?_)
    · rw [if_pos qc5] at hf
      refine XS.go (s_aloadn rfl rfl rfl) ?_
      refine XS.go (s_aloadn rfl rfl rfl) ?_
      refine XS.go (s_iloadn rfl rfl rfl) ?_
      rcases e7 : f_m_partOf x1 r2.2 with _ | r6
      · rw [e7] at hf; cases hf
      rw [e7] at hf; dsimp only at hf
      refine r_callv rfl xvX12_partOf xm12_549 (kf_m_partOf (d := d) L4 e7) (LY.lt L4 (by decide)) (LY.k1262 L4) (by decide) rfl rfl (by omega) (by decide) (Nat.le_of_ble_eq_true rfl) ?_
      rintro _ _ ⟨⟨rfl, rfl⟩, L8⟩
      refine XS.go (s_iloadn rfl rfl rfl) ?_
      rcases e10 : f_m_value r6.1 r2.1 r6.2 with _ | r9
      · rw [e10] at hf; cases hf
      rw [e10] at hf; dsimp only at hf
      refine r_callv rfl xvX12_value xm12_552 (kf_m_value (d := d) L8 e10) (LY.lt L8 (by decide)) (LY.k1262 L8) (by decide) rfl rfl (by omega) (by decide) (Nat.le_of_ble_eq_true rfl) ?_
      rintro _ _ ⟨⟨rfl, rfl⟩, L11⟩
      cases hf
      exact XR.retl rfl rfl (fun hret => ⟨_, hret, ⟨rfl, rfl⟩, L11⟩)
    · rw [if_neg qc5] at hf
      refine XS.go (s_aloadn rfl rfl rfl) ?_
      refine XS.go (s_getr rfl xf12_94 (LY.lt L4 (by decide)) (LY.k1262 L4) (by decide) rfl (LY.r1262_40 L4)) ?_
      refine XS.go (s_aloadn rfl rfl rfl) ?_
      refine XS.go (s_iloadn rfl rfl rfl) ?_
      rcases e13 : f_m_row x1 r2.2 with _ | r12
      · rw [e13] at hf; cases hf
      rw [e13] at hf; dsimp only at hf
      refine r_callv rfl xvX12_row xm12_532 (kf_m_row (d := d) L4 e13) (LY.lt L4 (by decide)) (LY.k1262 L4) (by decide) rfl rfl (by omega) (by decide) (Nat.le_of_ble_eq_true rfl) ?_
      rintro _ _ ⟨⟨rfl, rfl⟩, L14⟩
      by_cases qk15 : 0 ≤ r12.1 ∧ r12.1 < nI 256
      rotate_left
      · rw [if_neg qk15] at hf; cases hf
      rw [if_pos qk15] at hf
      refine XS.go (s_lalde rfl (LY.lt L14 (by decide)) (LY.k1291 L14) (inLit (LY.n1291 L14) qk15.1 qk15.2 (by decide)) rfl) ?_
      refine XS.go (s_goto (tgt := 85) rfl rfl) ?_
      cases hf
      exact XR.retl rfl rfl (fun hret => ⟨_, hret, ⟨rfl, rfl⟩, L14⟩)
  · rw [if_neg qc1] at hf
    refine XS.go (s_aloadn rfl rfl rfl) ?_
    refine XS.go (s_iloadn rfl rfl rfl) ?_
    rcases e17 : f_m_which x1 h with _ | r16
    · rw [e17] at hf; cases hf
    rw [e17] at hf; dsimp only at hf
    refine r_callv rfl xvX12_which xm12_546 (kf_m_which (d := d) L0 e17) (LY.lt L0 (by decide)) (LY.k1262 L0) (by decide) rfl rfl (by omega) (by decide) (Nat.le_of_ble_eq_true rfl) ?_
    rintro _ _ ⟨⟨rfl, rfl⟩, L18⟩
    refine XS.go (s_i2l rfl) ?_
    cases hf
    exact XR.retl rfl rfl (fun hret => ⟨_, hret, ⟨rfl, rfl⟩, L18⟩)
def b_m_read_22 (x1 : Int32) (y0 : Int32) (h : XH) : Option (Int64 × XH) := (if y0 = 0 then (b_m_read_39 x1 y0 h) else (if y0 = 4 then (b_m_read_39 x1 y0 h) else (some (0, (hsi h 1262 0 1)))))
set_option maxRecDepth 20000 in
theorem kb_m_read_22 {l : Launch} {G : XG} {d : Nat} {x1 : Int32} {y0 : Int32} {h : XH} {r : Int64 × XH} (L0 : LY h) (hf : b_m_read_22 x1 y0 h = some r) : XR l G xEX12_read (d + 5) (22, [some (.ref 1262), some (.int x1), none, none], [(.int y0)], h) (fun C => ∃ v, xRet xEX12_read C v ∧ (C.2.2.2 = r.2 ∧ v = some (.long r.1)) ∧ LY r.2) := by
  unfold b_m_read_22 at hf
  refine XS.go (s_istoren rfl rfl (Nat.le_of_ble_eq_true rfl)) ?_
  refine XS.go (s_iloadn rfl rfl rfl) ?_
  refine r_if_eq (tgt := 39) rfl rfl (fun qc19 => ?_) (fun qc19 => ?_)
  · rw [if_pos qc19] at hf
    exact XR.forget (L2 := [some (.ref 1262), some (.int x1), some (.int y0), none]) ⟨rfl, ⟨rfl, ⟨rfl, trivial⟩⟩⟩ (kb_m_read_39 L0 hf)
  · rw [if_neg qc19] at hf
    refine XS.go (s_iloadn rfl rfl rfl) ?_
    refine XS.go (s_iconst (v := 4) rfl rfl) ?_
    refine r_icmp_eq (tgt := 39) rfl rfl (fun qc20 => ?_) (fun qc20 => ?_)
    · rw [if_pos qc20] at hf
      exact XR.forget (L2 := [some (.ref 1262), some (.int x1), some (.int y0), none]) ⟨rfl, ⟨rfl, ⟨rfl, trivial⟩⟩⟩ (kb_m_read_39 L0 hf)
    · rw [if_neg qc20] at hf
      refine XS.go (s_aloadn rfl rfl rfl) ?_
      refine XS.go (s_iconst (v := 1) rfl rfl) ?_
      refine XS.go (s_puti rfl xf12_175 (LY.lt L0 (by decide)) (LY.k1262 L0) (by decide) rfl (Or.inl rfl)) ?_
      refine XS.go (s_lconst (v := 0) rfl rfl) ?_
      cases hf
      exact XR.retl rfl rfl (fun hret => ⟨_, hret, ⟨rfl, rfl⟩, (by simp only [LY_si, LY_sj]; exact L0)⟩)
def f_m_read (a0 : Int32) (h : XH) : Option (Int64 × XH) := (match f_m_isPart a0 (hsi h 1262 0 0) with | none => none | some r21 => (if r21.1 = 0 then (b_m_read_22 a0 (-1) r21.2) else (match f_m_partSort a0 r21.2 with | none => none | some r25 => (b_m_read_22 a0 r25.1 r25.2))))
set_option maxRecDepth 20000 in
theorem kf_m_read {l : Launch} {G : XG} {d : Nat} {a0 : Int32} {h : XH} {r : Int64 × XH} (L0 : LY h) (hf : f_m_read a0 h = some r) : XC l G xEX12_read (d + 5) [.ref 1262, .int a0] h (fun v h2 => (h2 = r.2 ∧ v = some (.long r.1)) ∧ LY r.2) := by
  refine XC.virt xvX12_read (Nat.le_of_ble_eq_true rfl) ?_
  unfold f_m_read at hf
  refine XS.go (s_aloadn rfl rfl rfl) ?_
  refine XS.go (s_iconst (v := 0) rfl rfl) ?_
  refine XS.go (s_puti rfl xf12_175 (LY.lt L0 (by decide)) (LY.k1262 L0) (by decide) rfl (Or.inl rfl)) ?_
  refine XS.go (s_aloadn rfl rfl rfl) ?_
  refine XS.go (s_iloadn rfl rfl rfl) ?_
  rcases e22 : f_m_isPart a0 (hsi h 1262 0 0) with _ | r21
  · rw [e22] at hf; cases hf
  rw [e22] at hf; dsimp only at hf
  refine r_callv rfl xvX12_isPart xm12_540 (kf_m_isPart (d := d) (by simp only [LY_si, LY_sj]; exact L0) e22) (LY.lt (by simp only [LY_si, LY_sj]; exact L0) (by decide)) (LY.k1262 (by simp only [LY_si, LY_sj]; exact L0)) (by decide) rfl rfl (by omega) (by decide) (Nat.le_of_ble_eq_true rfl) ?_
  rintro _ _ ⟨⟨rfl, rfl⟩, L23⟩
  refine r_if_eq (tgt := 21) rfl rfl (fun qc24 => ?_) (fun qc24 => ?_)
  · rw [if_pos qc24] at hf
    refine XS.go (s_iconst (v := (-1)) rfl rfl) ?_
    exact XR.forget (L2 := [some (.ref 1262), some (.int a0), none, none]) ⟨rfl, ⟨rfl, trivial⟩⟩ (kb_m_read_22 L23 hf)
  · rw [if_neg qc24] at hf
    refine XS.go (s_aloadn rfl rfl rfl) ?_
    refine XS.go (s_iloadn rfl rfl rfl) ?_
    rcases e26 : f_m_partSort a0 r21.2 with _ | r25
    · rw [e26] at hf; cases hf
    rw [e26] at hf; dsimp only at hf
    refine r_callv rfl xvX12_partSort xm12_543 (kf_m_partSort (d := d) L23 e26) (LY.lt L23 (by decide)) (LY.k1262 L23) (by decide) rfl rfl (by omega) (by decide) (Nat.le_of_ble_eq_true rfl) ?_
    rintro _ _ ⟨⟨rfl, rfl⟩, L27⟩
    refine XS.go (s_goto (tgt := 22) rfl rfl) ?_
    exact XR.forget (L2 := [some (.ref 1262), some (.int a0), none, none]) ⟨rfl, ⟨rfl, trivial⟩⟩ (kb_m_read_22 L27 hf)
def b_m_into_156 (x2 : Int32) (y1 : Int32) (y2 : Int32) (y3 : Int32) (y4 : Int32) (h : XH) : Option (Int32 × XH) := (match f_m_enter y1 y2 y3 y4 h with | none => none | some r1 => (match f_m_told x2 r1.2 with | none => none | some r4 => (some (r4.1, r4.2))))
set_option maxRecDepth 20000 in
theorem kb_m_into_156 {l : Launch} {G : XG} {d : Nat} {x2 : Int32} {y1 : Int32} {y2 : Int32} {y3 : Int32} {y4 : Int32} {h : XH} {r : Int32 × XH} (L0 : LY h) (hf : b_m_into_156 x2 y1 y2 y3 y4 h = some r) : XR l G xEX12_into (d + 5) (156, [none, none, some (.int x2), none, none, none], [(.int y4), (.int y3), (.int y2), (.int y1), (.ref 1262)], h) (fun C => ∃ v, xRet xEX12_into C v ∧ (C.2.2.2 = r.2 ∧ v = some (.int r.1)) ∧ LY r.2) := by
  unfold b_m_into_156 at hf
  rcases e2 : f_m_enter y1 y2 y3 y4 h with _ | r1
  · rw [e2] at hf; cases hf
  rw [e2] at hf; dsimp only at hf
  refine r_callv rfl xvX12_enter xm12_503 (kf_m_enter (d := d) L0 e2) (LY.lt L0 (by decide)) (LY.k1262 L0) (by decide) rfl rfl (by omega) (by decide) (Nat.le_of_ble_eq_true rfl) ?_
  rintro _ _ ⟨⟨rfl, rfl⟩, L3⟩
  refine XS.go (s_iloadn rfl rfl rfl) ?_
  rcases e5 : f_m_told x2 r1.2 with _ | r4
  · rw [e5] at hf; cases hf
  rw [e5] at hf; dsimp only at hf
  refine r_calls rfl xsX12_told xm12_524 (kf_m_told (d := d) L3 e5) rfl rfl (by omega) (by decide) (Nat.le_of_ble_eq_true rfl) ?_
  rintro _ _ ⟨⟨rfl, rfl⟩, L6⟩
  cases hf
  exact XR.reti rfl rfl (fun hret => ⟨_, hret, ⟨rfl, rfl⟩, L6⟩)
def b_m_into_133 (x2 : Int32) (x4 : Int32) (x5 : Int32) (y1 : Int32) (y2 : Int32) (h : XH) : Option (Int32 × XH) := (if ¬ x2 = 2 then (match f_m_number x4 4 h with | none => none | some r8 => (b_m_into_156 x2 y1 y2 x5 (x4 + (Int64.toInt32 r8.1)) r8.2)) else (b_m_into_156 x2 y1 y2 x5 x4 h))
set_option maxRecDepth 20000 in
theorem kb_m_into_133 {l : Launch} {G : XG} {d : Nat} {x2 : Int32} {x4 : Int32} {x5 : Int32} {y1 : Int32} {y2 : Int32} {h : XH} {r : Int32 × XH} (L0 : LY h) (hf : b_m_into_133 x2 x4 x5 y1 y2 h = some r) : XR l G xEX12_into (d + 5) (133, [some (.ref 1262), none, some (.int x2), none, some (.int x4), some (.int x5)], [(.int y2), (.int y1), (.ref 1262)], h) (fun C => ∃ v, xRet xEX12_into C v ∧ (C.2.2.2 = r.2 ∧ v = some (.int r.1)) ∧ LY r.2) := by
  unfold b_m_into_133 at hf
  refine XS.go (s_iload rfl rfl) ?_
  refine XS.go (s_iloadn rfl rfl rfl) ?_
  refine XS.go (s_iconst (v := 2) rfl rfl) ?_
  refine r_icmp_ne (tgt := 145) rfl rfl (fun qc7 => ?_) (fun qc7 => ?_)
  · rw [if_pos qc7] at hf
    refine XS.go (s_iload rfl rfl) ?_
    refine XS.go (s_aloadn rfl rfl rfl) ?_
    refine XS.go (s_iload rfl rfl) ?_
    refine XS.go (s_iconst (v := 4) rfl rfl) ?_
    rcases e9 : f_m_number x4 4 h with _ | r8
    · rw [e9] at hf; cases hf
    rw [e9] at hf; dsimp only at hf
    refine r_callv rfl xvX12_number xm12_467 (kf_m_number (d := d) L0 e9) (LY.lt L0 (by decide)) (LY.k1262 L0) (by decide) rfl rfl (by omega) (by decide) (Nat.le_of_ble_eq_true rfl) ?_
    rintro _ _ ⟨⟨rfl, rfl⟩, L10⟩
    refine XS.go (s_l2i rfl) ?_
    refine XS.go (s_iadd rfl) ?_
    exact XR.forget (L2 := [none, none, some (.int x2), none, none, none]) ⟨rfl, trivial⟩ (kb_m_into_156 L10 hf)
  · rw [if_neg qc7] at hf
    refine XS.go (s_iload rfl rfl) ?_
    refine XS.go (s_goto (tgt := 156) rfl rfl) ?_
    exact XR.forget (L2 := [none, none, some (.int x2), none, none, none]) ⟨rfl, trivial⟩ (kb_m_into_156 L0 hf)
def b_m_into_119 (x2 : Int32) (x3 : Int32) (x4 : Int32) (y0 : Int32) (h : XH) : Option (Int32 × XH) := (if ¬ x2 = 1 then (b_m_into_133 x2 x4 y0 x2 x3 h) else (b_m_into_133 x2 x4 y0 x2 0 h))
set_option maxRecDepth 20000 in
theorem kb_m_into_119 {l : Launch} {G : XG} {d : Nat} {x2 : Int32} {x3 : Int32} {x4 : Int32} {y0 : Int32} {h : XH} {r : Int32 × XH} (L0 : LY h) (hf : b_m_into_119 x2 x3 x4 y0 h = some r) : XR l G xEX12_into (d + 5) (119, [some (.ref 1262), none, some (.int x2), some (.int x3), some (.int x4), none], [(.int y0)], h) (fun C => ∃ v, xRet xEX12_into C v ∧ (C.2.2.2 = r.2 ∧ v = some (.int r.1)) ∧ LY r.2) := by
  unfold b_m_into_119 at hf
  refine XS.go (s_istore rfl (Nat.le_of_ble_eq_true rfl)) ?_
  refine XS.go (s_aloadn rfl rfl rfl) ?_
  refine XS.go (s_iloadn rfl rfl rfl) ?_
  refine XS.go (s_iloadn rfl rfl rfl) ?_
  refine XS.go (s_iconst (v := 1) rfl rfl) ?_
  refine r_icmp_ne (tgt := 132) rfl rfl (fun qc11 => ?_) (fun qc11 => ?_)
  · rw [if_pos qc11] at hf
    refine XS.go (s_iloadn rfl rfl rfl) ?_
    exact XR.forget (L2 := [some (.ref 1262), none, some (.int x2), none, some (.int x4), some (.int y0)]) ⟨rfl, ⟨rfl, ⟨rfl, ⟨rfl, trivial⟩⟩⟩⟩ (kb_m_into_133 L0 hf)
  · rw [if_neg qc11] at hf
    refine XS.go (s_iconst (v := 0) rfl rfl) ?_
    refine XS.go (s_goto (tgt := 133) rfl rfl) ?_
    exact XR.forget (L2 := [some (.ref 1262), none, some (.int x2), none, some (.int x4), some (.int y0)]) ⟨rfl, ⟨rfl, ⟨rfl, ⟨rfl, trivial⟩⟩⟩⟩ (kb_m_into_133 L0 hf)
def b_m_into_88 (x1 : Int32) (x2 : Int32) (x3 : Int32) (x4 : Int32) (h : XH) : Option (Int32 × XH) := (if x2 = 0 then (some ((-1), h)) else (if ¬ x4 = (-1) then (if ¬ x2 = 5 then (b_m_into_119 x2 x3 x4 (-1) h) else (match f_m_row x1 h with | none => none | some r15 => (if 0 ≤ r15.1 ∧ r15.1 < nI 256 then (b_m_into_119 x2 x3 x4 (hi r15.2 1288 (Int32.toNatClampNeg r15.1)) r15.2) else none))) else (some ((-1), h))))
set_option maxRecDepth 20000 in
theorem kb_m_into_88 {l : Launch} {G : XG} {d : Nat} {x1 : Int32} {x2 : Int32} {x3 : Int32} {x4 : Int32} {h : XH} {r : Int32 × XH} (L0 : LY h) (hf : b_m_into_88 x1 x2 x3 x4 h = some r) : XR l G xEX12_into (d + 5) (88, [some (.ref 1262), some (.int x1), some (.int x2), some (.int x3), some (.int x4), none], [], h) (fun C => ∃ v, xRet xEX12_into C v ∧ (C.2.2.2 = r.2 ∧ v = some (.int r.1)) ∧ LY r.2) := by
  unfold b_m_into_88 at hf
  refine XS.go (s_iloadn rfl rfl rfl) ?_
  refine r_if_eq (tgt := 98) rfl rfl (fun qc12 => ?_) (fun qc12 => ?_)
  · rw [if_pos qc12] at hf
    refine XS.go (s_iconst (v := (-1)) rfl rfl) ?_
    cases hf
    exact XR.reti rfl rfl (fun hret => ⟨_, hret, ⟨rfl, rfl⟩, L0⟩)
  · rw [if_neg qc12] at hf
    refine XS.go (s_iload rfl rfl) ?_
    refine XS.go (s_iconst (v := (-1)) rfl rfl) ?_
    refine r_icmp_ne (tgt := 100) rfl rfl (fun qc13 => ?_) (fun qc13 => ?_)
    · rw [if_pos qc13] at hf
      refine XS.go (s_iloadn rfl rfl rfl) ?_
      refine XS.go (s_iconst (v := 5) rfl rfl) ?_
      refine r_icmp_ne (tgt := 118) rfl rfl (fun qc14 => ?_) (fun qc14 => ?_)
      · rw [if_pos qc14] at hf
        refine XS.go (s_iconst (v := (-1)) rfl rfl) ?_
        exact XR.forget (L2 := [some (.ref 1262), none, some (.int x2), some (.int x3), some (.int x4), none]) ⟨rfl, ⟨rfl, ⟨rfl, ⟨rfl, trivial⟩⟩⟩⟩ (kb_m_into_119 L0 hf)
      · rw [if_neg qc14] at hf
        refine XS.go (s_aloadn rfl rfl rfl) ?_
        refine XS.go (s_getr rfl xf12_85 (LY.lt L0 (by decide)) (LY.k1262 L0) (by decide) rfl (LY.r1262_37 L0)) ?_
        refine XS.go (s_aloadn rfl rfl rfl) ?_
        refine XS.go (s_iloadn rfl rfl rfl) ?_
        rcases e16 : f_m_row x1 h with _ | r15
        · rw [e16] at hf; cases hf
        rw [e16] at hf; dsimp only at hf
        refine r_callv rfl xvX12_row xm12_532 (kf_m_row (d := d) L0 e16) (LY.lt L0 (by decide)) (LY.k1262 L0) (by decide) rfl rfl (by omega) (by decide) (Nat.le_of_ble_eq_true rfl) ?_
        rintro _ _ ⟨⟨rfl, rfl⟩, L17⟩
        by_cases qk18 : 0 ≤ r15.1 ∧ r15.1 < nI 256
        rotate_left
        · rw [if_neg qk18] at hf; cases hf
        rw [if_pos qk18] at hf
        refine XS.go (s_ialde rfl (LY.lt L17 (by decide)) (LY.k1288 L17) (inLit (LY.n1288 L17) qk18.1 qk18.2 (by decide)) rfl) ?_
        refine XS.go (s_goto (tgt := 119) rfl rfl) ?_
        exact XR.forget (L2 := [some (.ref 1262), none, some (.int x2), some (.int x3), some (.int x4), none]) ⟨rfl, ⟨rfl, ⟨rfl, ⟨rfl, trivial⟩⟩⟩⟩ (kb_m_into_119 L17 hf)
    · rw [if_neg qc13] at hf
      refine XS.go (s_iconst (v := (-1)) rfl rfl) ?_
      cases hf
      exact XR.reti rfl rfl (fun hret => ⟨_, hret, ⟨rfl, rfl⟩, L0⟩)
def f_m_into (a0 : Int32) (h : XH) : Option (Int32 × XH) := (match f_m_isPart a0 (hsi h 1262 0 0) with | none => none | some r19 => (if ¬ r19.1 = 0 then (match f_m_partSort a0 r19.2 with | none => none | some r23 => (match f_m_partOf a0 r23.2 with | none => none | some r26 => (match f_m_partAt a0 r26.2 with | none => none | some r29 => (if ¬ r23.1 = 4 then (b_m_into_88 a0 r23.1 r26.1 r29.1 r29.2) else (match f_m_which a0 r29.2 with | none => none | some r33 => (if ¬ r33.1 = 0 then (match f_m_row a0 r33.2 with | none => none | some r37 => (if 0 ≤ r37.1 ∧ r37.1 < nI 256 then (match f_m_stored ((hi r37.2 1289 (Int32.toNatClampNeg r37.1)) + 1) r37.2 with | none => none | some r41 => (if 0 ≤ (((8 * r26.1) + r33.1) - 1) ∧ (((8 * r26.1) + r33.1) - 1) < nI 64 then (b_m_into_88 a0 3 (hi r41.2 1294 (Int32.toNatClampNeg (((8 * r26.1) + r33.1) - 1))) r41.1 r41.2) else none)) else none)) else (some ((-1), r33.2)))))))) else (some ((-1), r19.2))))
set_option maxRecDepth 20000 in
theorem kf_m_into {l : Launch} {G : XG} {d : Nat} {a0 : Int32} {h : XH} {r : Int32 × XH} (L0 : LY h) (hf : f_m_into a0 h = some r) : XC l G xEX12_into (d + 5) [.ref 1262, .int a0] h (fun v h2 => (h2 = r.2 ∧ v = some (.int r.1)) ∧ LY r.2) := by
  refine XC.virt xvX12_into (Nat.le_of_ble_eq_true rfl) ?_
  unfold f_m_into at hf
  refine XS.go (s_aloadn rfl rfl rfl) ?_
  refine XS.go (s_iconst (v := 0) rfl rfl) ?_
  refine XS.go (s_puti rfl xf12_175 (LY.lt L0 (by decide)) (LY.k1262 L0) (by decide) rfl (Or.inl rfl)) ?_
  refine XS.go (s_aloadn rfl rfl rfl) ?_
  refine XS.go (s_iloadn rfl rfl rfl) ?_
  rcases e20 : f_m_isPart a0 (hsi h 1262 0 0) with _ | r19
  · rw [e20] at hf; cases hf
  rw [e20] at hf; dsimp only at hf
  refine r_callv rfl xvX12_isPart xm12_540 (kf_m_isPart (d := d) (by simp only [LY_si, LY_sj]; exact L0) e20) (LY.lt (by simp only [LY_si, LY_sj]; exact L0) (by decide)) (LY.k1262 (by simp only [LY_si, LY_sj]; exact L0)) (by decide) rfl rfl (by omega) (by decide) (Nat.le_of_ble_eq_true rfl) ?_
  rintro _ _ ⟨⟨rfl, rfl⟩, L21⟩
  refine r_if_ne (tgt := 15) rfl rfl (fun qc22 => ?_) (fun qc22 => ?_)
  · rw [if_pos qc22] at hf
    refine XS.go (s_aloadn rfl rfl rfl) ?_
    refine XS.go (s_iloadn rfl rfl rfl) ?_
    rcases e24 : f_m_partSort a0 r19.2 with _ | r23
    · rw [e24] at hf; cases hf
    rw [e24] at hf; dsimp only at hf
    refine r_callv rfl xvX12_partSort xm12_543 (kf_m_partSort (d := d) L21 e24) (LY.lt L21 (by decide)) (LY.k1262 L21) (by decide) rfl rfl (by omega) (by decide) (Nat.le_of_ble_eq_true rfl) ?_
    rintro _ _ ⟨⟨rfl, rfl⟩, L25⟩
    refine XS.go (s_istoren rfl rfl (Nat.le_of_ble_eq_true rfl)) ?_
    refine XS.go (s_aloadn rfl rfl rfl) ?_
    refine XS.go (s_iloadn rfl rfl rfl) ?_
    rcases e27 : f_m_partOf a0 r23.2 with _ | r26
    · rw [e27] at hf; cases hf
    rw [e27] at hf; dsimp only at hf
    refine r_callv rfl xvX12_partOf xm12_549 (kf_m_partOf (d := d) L25 e27) (LY.lt L25 (by decide)) (LY.k1262 L25) (by decide) rfl rfl (by omega) (by decide) (Nat.le_of_ble_eq_true rfl) ?_
    rintro _ _ ⟨⟨rfl, rfl⟩, L28⟩
    refine XS.go (s_istoren rfl rfl (Nat.le_of_ble_eq_true rfl)) ?_
    refine XS.go (s_aloadn rfl rfl rfl) ?_
    refine XS.go (s_iloadn rfl rfl rfl) ?_
    rcases e30 : f_m_partAt a0 r26.2 with _ | r29
    · rw [e30] at hf; cases hf
    rw [e30] at hf; dsimp only at hf
    refine r_callv rfl xvX12_partAt xm12_537 (kf_m_partAt (d := d) L28 e30) (LY.lt L28 (by decide)) (LY.k1262 L28) (by decide) rfl rfl (by omega) (by decide) (Nat.le_of_ble_eq_true rfl) ?_
    rintro _ _ ⟨⟨rfl, rfl⟩, L31⟩
    refine XS.go (s_istore rfl (Nat.le_of_ble_eq_true rfl)) ?_
    refine XS.go (s_iloadn rfl rfl rfl) ?_
    refine XS.go (s_iconst (v := 4) rfl rfl) ?_
    refine r_icmp_ne (tgt := 88) rfl rfl (fun qc32 => ?_) (fun qc32 => ?_)
    · rw [if_pos qc32] at hf
      exact XR.forget (L2 := [some (.ref 1262), some (.int a0), some (.int r23.1), some (.int r26.1), some (.int r29.1), none]) ⟨rfl, ⟨rfl, ⟨rfl, ⟨rfl, ⟨rfl, trivial⟩⟩⟩⟩⟩ (kb_m_into_88 L31 hf)
    · rw [if_neg qc32] at hf
      refine XS.go (s_aloadn rfl rfl rfl) ?_
      refine XS.go (s_iloadn rfl rfl rfl) ?_
      rcases e34 : f_m_which a0 r29.2 with _ | r33
      · rw [e34] at hf; cases hf
      rw [e34] at hf; dsimp only at hf
      refine r_callv rfl xvX12_which xm12_546 (kf_m_which (d := d) L31 e34) (LY.lt L31 (by decide)) (LY.k1262 L31) (by decide) rfl rfl (by omega) (by decide) (Nat.le_of_ble_eq_true rfl) ?_
      rintro _ _ ⟨⟨rfl, rfl⟩, L35⟩
      refine XS.go (s_istore rfl (Nat.le_of_ble_eq_true rfl)) ?_
      refine XS.go (s_iload rfl rfl) ?_
      refine r_if_ne (tgt := 53) rfl rfl (fun qc36 => ?_) (fun qc36 => ?_)
      · rw [if_pos qc36] at hf
        refine XS.go (s_aloadn rfl rfl rfl) ?_
        refine XS.go (s_aloadn rfl rfl rfl) ?_
        refine XS.go (s_getr rfl xf12_88 (LY.lt L35 (by decide)) (LY.k1262 L35) (by decide) rfl (LY.r1262_38 L35)) ?_
        refine XS.go (s_aloadn rfl rfl rfl) ?_
        refine XS.go (s_iloadn rfl rfl rfl) ?_
        rcases e38 : f_m_row a0 r33.2 with _ | r37
        · rw [e38] at hf; cases hf
        rw [e38] at hf; dsimp only at hf
        refine r_callv rfl xvX12_row xm12_532 (kf_m_row (d := d) L35 e38) (LY.lt L35 (by decide)) (LY.k1262 L35) (by decide) rfl rfl (by omega) (by decide) (Nat.le_of_ble_eq_true rfl) ?_
        rintro _ _ ⟨⟨rfl, rfl⟩, L39⟩
        by_cases qk40 : 0 ≤ r37.1 ∧ r37.1 < nI 256
        rotate_left
        · rw [if_neg qk40] at hf; cases hf
        rw [if_pos qk40] at hf
        refine XS.go (s_ialde rfl (LY.lt L39 (by decide)) (LY.k1289 L39) (inLit (LY.n1289 L39) qk40.1 qk40.2 (by decide)) rfl) ?_
        refine XS.go (s_iconst (v := 1) rfl rfl) ?_
        refine XS.go (s_iadd rfl) ?_
        rcases e42 : f_m_stored ((hi r37.2 1289 (Int32.toNatClampNeg r37.1)) + 1) r37.2 with _ | r41
        · rw [e42] at hf; cases hf
        rw [e42] at hf; dsimp only at hf
        refine r_callv rfl xvX12_stored xm12_534 (kf_m_stored (d := d) L39 e42) (LY.lt L39 (by decide)) (LY.k1262 L39) (by decide) rfl rfl (by omega) (by decide) (Nat.le_of_ble_eq_true rfl) ?_
        rintro _ _ ⟨⟨rfl, rfl⟩, L43⟩
        refine XS.go (s_istore rfl (Nat.le_of_ble_eq_true rfl)) ?_
        refine XS.go (s_aloadn rfl rfl rfl) ?_
        refine XS.go (s_getr rfl xf12_104 (LY.lt L43 (by decide)) (LY.k1262 L43) (by decide) rfl (LY.r1262_44 L43)) ?_
        refine XS.go (s_bipush (v := 8) rfl rfl) ?_
        refine XS.go (s_iloadn rfl rfl rfl) ?_
        refine XS.go (s_imul rfl) ?_
        refine XS.go (s_iload rfl rfl) ?_
        refine XS.go (s_iadd rfl) ?_
        refine XS.go (s_iconst (v := 1) rfl rfl) ?_
        refine XS.go (s_isub rfl) ?_
        by_cases qk44 : 0 ≤ (((8 * r26.1) + r33.1) - 1) ∧ (((8 * r26.1) + r33.1) - 1) < nI 64
        rotate_left
        · rw [if_neg qk44] at hf; cases hf
        rw [if_pos qk44] at hf
        refine XS.go (s_ialde rfl (LY.lt L43 (by decide)) (LY.k1294 L43) (inLit (LY.n1294 L43) qk44.1 qk44.2 (by decide)) rfl) ?_
        refine XS.go (s_istoren rfl rfl (Nat.le_of_ble_eq_true rfl)) ?_
        refine XS.go (s_iconst (v := 3) rfl rfl) ?_
        refine XS.go (s_istoren rfl rfl (Nat.le_of_ble_eq_true rfl)) ?_
        exact XR.forget (L2 := [some (.ref 1262), some (.int a0), some (.int 3), some (.int (hi r41.2 1294 (Int32.toNatClampNeg (((8 * r26.1) + r33.1) - 1)))), some (.int r41.1), none]) ⟨rfl, ⟨rfl, ⟨rfl, ⟨rfl, ⟨rfl, trivial⟩⟩⟩⟩⟩ (kb_m_into_88 L43 hf)
      · rw [if_neg qc36] at hf
        refine XS.go (s_iconst (v := (-1)) rfl rfl) ?_
        cases hf
        exact XR.reti rfl rfl (fun hret => ⟨_, hret, ⟨rfl, rfl⟩, L35⟩)
  · rw [if_neg qc22] at hf
    refine XS.go (s_iconst (v := (-1)) rfl rfl) ?_
    cases hf
    exact XR.reti rfl rfl (fun hret => ⟨_, hret, ⟨rfl, rfl⟩, L21⟩)
