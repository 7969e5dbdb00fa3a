/-! Methods as functions of the heap -/
def f_m_up (h : XH) : Option (Int32 × XH) := (if (hi h 1262 81) = 0 then (some ((-1), (hsi h 1262 0 0))) else (if ¬ (hi h 1262 87) = 1 then (match f_m_sort (hsi (hsi h 1262 0 0) 1262 87 ((hi h 1262 87) - 1)) with | none => none | some r3 => (match f_m_told r3.1 r3.2 with | none => none | some r6 => (some (r6.1, r6.2)))) else (some ((-1), (hsi h 1262 0 0)))))
set_option maxRecDepth 20000 in
theorem kf_m_up {l : Launch} {G : XG} {d : Nat} {h : XH} {r : Int32 × XH} (L0 : LY h) (hf : f_m_up h = some r) : XC l G xEX12_up (d + 1) [.ref 1262] h (fun v h2 => (h2 = r.2 ∧ v = some (.int r.1)) ∧ LY r.2) := by
  refine XC.virt xvX12_up (Nat.le_of_ble_eq_true rfl) ?_
  unfold f_m_up at hf
  refine XS.go (s_aloadn rfl rfl rfl) ?_
  refine XS.go (s_iconst (v := 0) rfl rfl) ?_
  refine XS.go (s_puti rfl xf12_175 (LY.lt L0 (by decide)) (LY.k1262 L0) (by decide) rfl (Or.inl rfl)) ?_
  refine XS.go (s_aloadn rfl rfl rfl) ?_
  refine XS.go (s_getze rfl xf12_360 (LY.lt (by simp only [LY_si, LY_sj]; exact L0) (by decide)) (LY.k1262 (by simp only [LY_si, LY_sj]; exact L0)) (by decide) rfl (hi_hsi_nk (by decide))) ?_
  refine r_if_eq (tgt := 20) rfl rfl (fun qc1 => ?_) (fun qc1 => ?_)
  · rw [if_pos qc1] at hf
    refine XS.go (s_iconst (v := (-1)) rfl rfl) ?_
    cases hf
    exact XR.reti rfl rfl (fun hret => ⟨_, hret, ⟨rfl, rfl⟩, (by simp only [LY_si, LY_sj]; exact L0)⟩)
  · rw [if_neg qc1] at hf
    refine XS.go (s_aloadn rfl rfl rfl) ?_
    refine XS.go (s_getie rfl xf12_500 (LY.lt (by simp only [LY_si, LY_sj]; exact L0) (by decide)) (LY.k1262 (by simp only [LY_si, LY_sj]; exact L0)) (by decide) rfl (hi_hsi_nk (by decide))) ?_
    refine XS.go (s_iconst (v := 1) rfl rfl) ?_
    refine r_icmp_ne (tgt := 22) rfl rfl (fun qc2 => ?_) (fun qc2 => ?_)
    · rw [if_pos qc2] at hf
      refine XS.go (s_aloadn rfl rfl rfl) ?_
      refine XS.go (s_dup rfl rfl) ?_
      refine XS.go (s_getie rfl xf12_500 (LY.lt (by simp only [LY_si, LY_sj]; exact L0) (by decide)) (LY.k1262 (by simp only [LY_si, LY_sj]; exact L0)) (by decide) rfl (hi_hsi_nk (by decide))) ?_
      refine XS.go (s_iconst (v := 1) rfl rfl) ?_
      refine XS.go (s_isub rfl) ?_
      refine XS.go (s_puti rfl xf12_500 (LY.lt (by simp only [LY_si, LY_sj]; exact L0) (by decide)) (LY.k1262 (by simp only [LY_si, LY_sj]; exact L0)) (by decide) rfl (Or.inl rfl)) ?_
      refine XS.go (s_aloadn rfl rfl rfl) ?_
      rcases e4 : f_m_sort (hsi (hsi h 1262 0 0) 1262 87 ((hi h 1262 87) - 1)) with _ | r3
      · rw [e4] at hf; cases hf
      rw [e4] at hf; dsimp only at hf
      refine r_callv rfl xvX12_sort xm12_515 (kf_m_sort (d := d) (by simp only [LY_si, LY_sj]; exact L0) e4) (LY.lt (by simp only [LY_si, LY_sj]; exact L0) (by decide)) (LY.k1262 (by simp only [LY_si, LY_sj]; exact L0)) (by decide) rfl rfl (by omega) (by decide) (Nat.le_of_ble_eq_true rfl) ?_
      rintro _ _ ⟨⟨rfl, rfl⟩, L5⟩
      rcases e7 : f_m_told r3.1 r3.2 with _ | r6
      · rw [e7] at hf; cases hf
      rw [e7] at hf; dsimp only at hf
      refine r_calls rfl xsX12_told xm12_524 (kf_m_told (d := d) L5 e7) rfl rfl (by omega) (by decide) (Nat.le_of_ble_eq_true rfl) ?_
      rintro _ _ ⟨⟨rfl, rfl⟩, L8⟩
      cases hf
      exact XR.reti rfl rfl (fun hret => ⟨_, hret, ⟨rfl, rfl⟩, L8⟩)
    · rw [if_neg qc2] at hf
      refine XS.go (s_iconst (v := (-1)) rfl rfl) ?_
      cases hf
      exact XR.reti rfl rfl (fun hret => ⟨_, hret, ⟨rfl, rfl⟩, (by simp only [LY_si, LY_sj]; exact L0)⟩)
def s_m_write_119 (K119 : Int32 → XH → Option (Int32 × XH)) (x6 : Int32) (h : XH) : Option (Int32 × XH) := (if (hi h 1262 75) ≤ x6 then (match f_m_atRoot h with | none => none | some r2 => (some (1, r2.2))) else (if 0 ≤ x6 ∧ x6 < nI 4000 then (K119 (x6 + 1) (hsi h 1311 (Int32.toNatClampNeg x6) (hi h 1310 (Int32.toNatClampNeg x6)))) else none))
set_option maxRecDepth 20000 in
theorem ks_m_write_119 {l : Launch} {G : XG} {d : Nat} {K119 : Int32 → XH → Option (Int32 × XH)} {x6 : Int32} {h : XH} {r : Int32 × XH} (hK119 : ∀ (x6 : Int32) (h : XH), LY h → K119 x6 h = some r → XR l G xEX12_write (d + 202) (119, [some (.ref 1262), none, none, none, none, none, some (.int x6)], [], h) (fun C => ∃ v, xRet xEX12_write C v ∧ (C.2.2.2 = r.2 ∧ v = some (.int r.1)) ∧ LY r.2)) (L0 : LY h) (hf : s_m_write_119 K119 x6 h = some r) : XR l G xEX12_write (d + 202) (119, [some (.ref 1262), none, none, none, none, none, some (.int x6)], [], h) (fun C => ∃ v, xRet xEX12_write C v ∧ (C.2.2.2 = r.2 ∧ v = some (.int r.1)) ∧ LY r.2) := by
  unfold s_m_write_119 at hf
  refine XS.go (s_iload rfl rfl) ?_
  refine XS.go (s_aloadn rfl rfl rfl) ?_
  refine XS.go (s_getie rfl xf12_459 (LY.lt L0 (by decide)) (LY.k1262 L0) (by decide) rfl rfl) ?_
  refine r_icmp_ge (tgt := 148) rfl rfl (fun qc1 => ?_) (fun qc1 => ?_)
  · rw [if_pos qc1] at hf
    refine XS.go (s_aloadn rfl rfl rfl) ?_
    rcases e3 : f_m_atRoot h with _ | r2
    · rw [e3] at hf; cases hf
    rw [e3] at hf; dsimp only at hf
    refine r_callv rfl xvX12_atRoot xm12_512 (kf_m_atRoot (d := d) L0 e3) (LY.lt L0 (by decide)) (LY.k1262 L0) (by decide) rfl rfl (by omega) (by decide) (Nat.le_of_ble_eq_true rfl) ?_
    rintro _ _ ⟨⟨rfl, rfl⟩, L4⟩
    refine XS.go (s_iconst (v := 1) rfl rfl) ?_
    cases hf
    exact XR.retz rfl rfl (by decide) (fun hret => ⟨_, hret, ⟨rfl, rfl⟩, L4⟩)
  · rw [if_neg qc1] at hf
    refine XS.go (s_aloadn rfl rfl rfl) ?_
    refine XS.go (s_getr rfl xf12_160 (LY.lt L0 (by decide)) (LY.k1262 L0) (by decide) rfl (LY.r1262_79 L0)) ?_
    refine XS.go (s_iload rfl rfl) ?_
    refine XS.go (s_aloadn rfl rfl rfl) ?_
    refine XS.go (s_getr rfl xf12_157 (LY.lt L0 (by decide)) (LY.k1262 L0) (by decide) rfl (LY.r1262_74 L0)) ?_
    refine XS.go (s_iload rfl rfl) ?_
    by_cases qk5 : 0 ≤ x6 ∧ x6 < nI 4000
    rotate_left
    · rw [if_neg qk5] at hf; cases hf
    rw [if_pos qk5] at hf
    refine XS.go (s_ialde rfl (LY.lt L0 (by decide)) (LY.k1310 L0) (inLit (LY.n1310 L0) qk5.1 qk5.2 (by decide)) rfl) ?_
    refine XS.go (s_iast rfl (LY.lt L0 (by decide)) (LY.k1311 L0) (inLit (LY.n1311 L0) qk5.1 qk5.2 (by decide))) ?_
    refine XS.go (s_inc rfl rfl (Nat.le_of_ble_eq_true rfl)) ?_
    refine XS.go (s_goto (tgt := 119) rfl rfl) ?_
    exact XR.forget (L2 := [some (.ref 1262), none, none, none, none, none, some (.int (x6 + 1))]) ⟨rfl, ⟨rfl, trivial⟩⟩ (hK119 (x6 + 1) _ (by simp only [LY_si, LY_sj]; exact L0) hf)
def b_m_write_119 : Nat → Int32 → XH → Option (Int32 × XH)
  | 0, _, _ => none
  | n + 1, x6, h => s_m_write_119 (b_m_write_119 n) x6 h
theorem kb_m_write_119 {l : Launch} {G : XG} {d : Nat} {n : Nat} {x6 : Int32} {h : XH} {r : Int32 × XH} (L0 : LY h) (hf : b_m_write_119 n x6 h = some r) : XR l G xEX12_write (d + 202) (119, [some (.ref 1262), none, none, none, none, none, some (.int x6)], [], h) (fun C => ∃ v, xRet xEX12_write C v ∧ (C.2.2.2 = r.2 ∧ v = some (.int r.1)) ∧ LY r.2) := by
  induction n generalizing x6 h with
  | zero => cases hf
  | succ n ih => exact ks_m_write_119 (fun x6 h L0 hf => ih (h := h) (x6 := x6) L0 hf) L0 hf
def s_m_write_65 (K65 : Int64 → Int32 → Int32 → Int32 → XH → Option (Int32 × XH)) (x2 : Int64) (x4 : Int32) (x5 : Int32) (x6 : Int32) (h : XH) : Option (Int32 × XH) := (match f_m_bytesOf x4 h with | none => none | some r6 => (if r6.1 ≤ x6 then (match f_m_judge r6.2 with | none => none | some r10 => (if ¬ r10.1 = 0 then (b_m_write_119 100000 0 r10.2) else (match f_m_back r10.2 with | none => none | some r14 => (some (0, r14.2))))) else (if 0 ≤ (x5 + x6) ∧ (x5 + x6) < nI 4000 then (K65 x2 x4 x5 (x6 + 1) (hsi r6.2 1310 (Int32.toNatClampNeg (x5 + x6)) (Int64.toInt32 ((x2 >>> ((Int32.toInt64 (8 * x6)) &&& 63)) &&& 255)))) else none)))
set_option maxRecDepth 20000 in
theorem ks_m_write_65 {l : Launch} {G : XG} {d : Nat} {K65 : Int64 → Int32 → Int32 → Int32 → XH → Option (Int32 × XH)} {x2 : Int64} {x4 : Int32} {x5 : Int32} {x6 : Int32} {h : XH} {r : Int32 × XH} (hK65 : ∀ (x2 : Int64) (x4 : Int32) (x5 : Int32) (x6 : Int32) (h : XH), LY h → K65 x2 x4 x5 x6 h = some r → XR l G xEX12_write (d + 202) (65, [some (.ref 1262), none, some (.long x2), none, some (.int x4), some (.int x5), some (.int x6)], [], h) (fun C => ∃ v, xRet xEX12_write C v ∧ (C.2.2.2 = r.2 ∧ v = some (.int r.1)) ∧ LY r.2)) (L0 : LY h) (hf : s_m_write_65 K65 x2 x4 x5 x6 h = some r) : XR l G xEX12_write (d + 202) (65, [some (.ref 1262), none, some (.long x2), none, some (.int x4), some (.int x5), some (.int x6)], [], h) (fun C => ∃ v, xRet xEX12_write C v ∧ (C.2.2.2 = r.2 ∧ v = some (.int r.1)) ∧ LY r.2) := by
  unfold s_m_write_65 at hf
  refine XS.go (s_iload rfl rfl) ?_
  refine XS.go (s_iload rfl rfl) ?_
  rcases e7 : f_m_bytesOf x4 h with _ | r6
  · rw [e7] at hf; cases hf
  rw [e7] at hf; dsimp only at hf
  refine r_calls rfl xsX12_bytesOf xm12_315 (kf_m_bytesOf (d := d) L0 e7) rfl rfl (by omega) (by decide) (Nat.le_of_ble_eq_true rfl) ?_
  rintro _ _ ⟨⟨rfl, rfl⟩, L8⟩
  refine r_icmp_ge (tgt := 103) rfl rfl (fun qc9 => ?_) (fun qc9 => ?_)
  · rw [if_pos qc9] at hf
    refine XS.go (s_aloadn rfl rfl rfl) ?_
    rcases e11 : f_m_judge r6.2 with _ | r10
    · rw [e11] at hf; cases hf
    rw [e11] at hf; dsimp only at hf
    refine r_callv rfl xvX12_judge xm12_506 (kf_m_judge (d := d) L8 e11) (LY.lt L8 (by decide)) (LY.k1262 L8) (by decide) rfl rfl (by omega) (by decide) (Nat.le_of_ble_eq_true rfl) ?_
    rintro _ _ ⟨⟨rfl, rfl⟩, L12⟩
    refine r_if_ne (tgt := 116) rfl rfl (fun qc13 => ?_) (fun qc13 => ?_)
    · rw [if_pos qc13] at hf
      refine XS.go (s_iconst (v := 0) rfl rfl) ?_
      refine XS.go (s_istore rfl (Nat.le_of_ble_eq_true rfl)) ?_
      exact XR.forget (L2 := [some (.ref 1262), none, none, none, none, none, some (.int 0)]) ⟨rfl, ⟨rfl, trivial⟩⟩ (kb_m_write_119 L12 hf)
    · rw [if_neg qc13] at hf
      refine XS.go (s_aloadn rfl rfl rfl) ?_
      rcases e15 : f_m_back r10.2 with _ | r14
      · rw [e15] at hf; cases hf
      rw [e15] at hf; dsimp only at hf
      refine r_callv rfl xvX12_back xm12_509 (kf_m_back (d := d) L12 e15) (LY.lt L12 (by decide)) (LY.k1262 L12) (by decide) rfl rfl (by omega) (by decide) (Nat.le_of_ble_eq_true rfl) ?_
      rintro _ _ ⟨⟨rfl, rfl⟩, L16⟩
      refine XS.go (s_iconst (v := 0) rfl rfl) ?_
      cases hf
      exact XR.retz rfl rfl (by decide) (fun hret => ⟨_, hret, ⟨rfl, rfl⟩, L16⟩)
  · rw [if_neg qc9] at hf
    refine XS.go (s_aloadn rfl rfl rfl) ?_
    refine XS.go (s_getr rfl xf12_157 (LY.lt L8 (by decide)) (LY.k1262 L8) (by decide) rfl (LY.r1262_74 L8)) ?_
    refine XS.go (s_iload rfl rfl) ?_
    refine XS.go (s_iload rfl rfl) ?_
    refine XS.go (s_iadd rfl) ?_
    refine XS.go (s_lloadn rfl rfl rfl) ?_
    refine XS.go (s_bipush (v := 8) rfl rfl) ?_
    refine XS.go (s_iload rfl rfl) ?_
    refine XS.go (s_imul rfl) ?_
    refine XS.go (s_lshr rfl) ?_
    refine XS.go (s_ldc2 rfl (lg_9 83 rfl rfl)) ?_
    refine XS.go (s_land rfl) ?_
    refine XS.go (s_l2i rfl) ?_
    by_cases qk17 : 0 ≤ (x5 + x6) ∧ (x5 + x6) < nI 4000
    rotate_left
    · rw [if_neg qk17] at hf; cases hf
    rw [if_pos qk17] at hf
    refine XS.go (s_iast rfl (LY.lt L8 (by decide)) (LY.k1310 L8) (inLit (LY.n1310 L8) qk17.1 qk17.2 (by decide))) ?_
    refine XS.go (s_inc rfl rfl (Nat.le_of_ble_eq_true rfl)) ?_
    refine XS.go (s_goto (tgt := 65) rfl rfl) ?_
    exact XR.forget (L2 := [some (.ref 1262), none, some (.long x2), none, some (.int x4), some (.int x5), some (.int (x6 + 1))]) ⟨rfl, ⟨rfl, ⟨rfl, ⟨rfl, ⟨rfl, trivial⟩⟩⟩⟩⟩ (hK65 x2 x4 x5 (x6 + 1) _ (by simp only [LY_si, LY_sj]; exact L8) hf)
def b_m_write_65 : Nat → Int64 → Int32 → Int32 → Int32 → XH → Option (Int32 × XH)
  | 0, _, _, _, _, _ => none
  | n + 1, x2, x4, x5, x6, h => s_m_write_65 (b_m_write_65 n) x2 x4 x5 x6 h
theorem kb_m_write_65 {l : Launch} {G : XG} {d : Nat} {n : Nat} {x2 : Int64} {x4 : Int32} {x5 : Int32} {x6 : Int32} {h : XH} {r : Int32 × XH} (L0 : LY h) (hf : b_m_write_65 n x2 x4 x5 x6 h = some r) : XR l G xEX12_write (d + 202) (65, [some (.ref 1262), none, some (.long x2), none, some (.int x4), some (.int x5), some (.int x6)], [], h) (fun C => ∃ v, xRet xEX12_write C v ∧ (C.2.2.2 = r.2 ∧ v = some (.int r.1)) ∧ LY r.2) := by
  induction n generalizing x2 x4 x5 x6 h with
  | zero => cases hf
  | succ n ih => exact ks_m_write_65 (fun x2 x4 x5 x6 h L0 hf => ih (h := h) (x2 := x2) (x4 := x4) (x5 := x5) (x6 := x6) L0 hf) L0 hf
def f_m_write (a0 : Int32) (a1 : Int64) (h : XH) : Option (Int32 × XH) := (match f_m_isPart a0 (hsi h 1262 0 0) with | none => none | some r18 => (if r18.1 = 0 then (some (0, r18.2)) else (match f_m_sort r18.2 with | none => none | some r22 => (if r22.1 = 1 then (some (0, r22.2)) else (match f_m_partSort a0 r22.2 with | none => none | some r26 => (if r26.1 = 0 then (match f_m_partOf a0 r26.2 with | none => none | some r30 => (match f_m_partAt a0 r30.2 with | none => none | some r33 => (if r33.1 = (-1) then (some (0, r33.2)) else (match f_m_isValue r30.1 a1 r33.2 with | none => none | some r37 => (if ¬ r37.1 = 0 then (b_m_write_65 100000 a1 r30.1 r33.1 0 r37.2) else (some (0, r37.2))))))) else (some (0, r26.2))))))))
set_option maxRecDepth 20000 in
theorem kf_m_write {l : Launch} {G : XG} {d : Nat} {a0 : Int32} {a1 : Int64} {h : XH} {r : Int32 × XH} (L0 : LY h) (hf : f_m_write a0 a1 h = some r) : XC l G xEX12_write (d + 202) [.ref 1262, .int a0, .long a1] h (fun v h2 => (h2 = r.2 ∧ v = some (.int r.1)) ∧ LY r.2) := by
  refine XC.virt xvX12_write (Nat.le_of_ble_eq_true rfl) ?_
  unfold f_m_write at hf
  refine XS.go (s_aloadn rfl rfl rfl) ?_
  refine XS.go (s_iconst (v := 0) rfl rfl) ?_
  refine XS.go (s_puti rfl xf12_175 (LY.lt L0 (by decide)) (LY.k1262 L0) (by decide) rfl (Or.inl rfl)) ?_
  refine XS.go (s_aloadn rfl rfl rfl) ?_
  refine XS.go (s_iloadn rfl rfl rfl) ?_
  rcases e19 : f_m_isPart a0 (hsi h 1262 0 0) with _ | r18
  · rw [e19] at hf; cases hf
  rw [e19] at hf; dsimp only at hf
  refine r_callv rfl xvX12_isPart xm12_540 (kf_m_isPart (d := d) (by simp only [LY_si, LY_sj]; exact L0) e19) (LY.lt (by simp only [LY_si, LY_sj]; exact L0) (by decide)) (LY.k1262 (by simp only [LY_si, LY_sj]; exact L0)) (by decide) rfl rfl (by omega) (by decide) (Nat.le_of_ble_eq_true rfl) ?_
  rintro _ _ ⟨⟨rfl, rfl⟩, L20⟩
  refine r_if_eq (tgt := 29) rfl rfl (fun qc21 => ?_) (fun qc21 => ?_)
  · rw [if_pos qc21] at hf
    refine XS.go (s_iconst (v := 0) rfl rfl) ?_
    cases hf
    exact XR.retz rfl rfl (by decide) (fun hret => ⟨_, hret, ⟨rfl, rfl⟩, L20⟩)
  · rw [if_neg qc21] at hf
    refine XS.go (s_aloadn rfl rfl rfl) ?_
    rcases e23 : f_m_sort r18.2 with _ | r22
    · rw [e23] at hf; cases hf
    rw [e23] at hf; dsimp only at hf
    refine r_callv rfl xvX12_sort xm12_515 (kf_m_sort (d := d) L20 e23) (LY.lt L20 (by decide)) (LY.k1262 L20) (by decide) rfl rfl (by omega) (by decide) (Nat.le_of_ble_eq_true rfl) ?_
    rintro _ _ ⟨⟨rfl, rfl⟩, L24⟩
    refine XS.go (s_iconst (v := 1) rfl rfl) ?_
    refine r_icmp_eq (tgt := 29) rfl rfl (fun qc25 => ?_) (fun qc25 => ?_)
    · rw [if_pos qc25] at hf
      refine XS.go (s_iconst (v := 0) rfl rfl) ?_
      cases hf
      exact XR.retz rfl rfl (by decide) (fun hret => ⟨_, hret, ⟨rfl, rfl⟩, L24⟩)
    · rw [if_neg qc25] at hf
      refine XS.go (s_aloadn rfl rfl rfl) ?_
      refine XS.go (s_iloadn rfl rfl rfl) ?_
      rcases e27 : f_m_partSort a0 r22.2 with _ | r26
      · rw [e27] at hf; cases hf
      rw [e27] at hf; dsimp only at hf
      refine r_callv rfl xvX12_partSort xm12_543 (kf_m_partSort (d := d) L24 e27) (LY.lt L24 (by decide)) (LY.k1262 L24) (by decide) rfl rfl (by omega) (by decide) (Nat.le_of_ble_eq_true rfl) ?_
      rintro _ _ ⟨⟨rfl, rfl⟩, L28⟩
      refine r_if_eq (tgt := 31) rfl rfl (fun qc29 => ?_) (fun qc29 => ?_)
      · rw [if_pos qc29] at hf
        refine XS.go (s_aloadn rfl rfl rfl) ?_
        refine XS.go (s_iloadn rfl rfl rfl) ?_
        rcases e31 : f_m_partOf a0 r26.2 with _ | r30
        · rw [e31] at hf; cases hf
        rw [e31] at hf; dsimp only at hf
        refine r_callv rfl xvX12_partOf xm12_549 (kf_m_partOf (d := d) L28 e31) (LY.lt L28 (by decide)) (LY.k1262 L28) (by decide) rfl rfl (by omega) (by decide) (Nat.le_of_ble_eq_true rfl) ?_
        rintro _ _ ⟨⟨rfl, rfl⟩, L32⟩
        refine XS.go (s_istore rfl (Nat.le_of_ble_eq_true rfl)) ?_
        refine XS.go (s_aloadn rfl rfl rfl) ?_
        refine XS.go (s_iloadn rfl rfl rfl) ?_
        rcases e34 : f_m_partAt a0 r30.2 with _ | r33
        · rw [e34] at hf; cases hf
        rw [e34] at hf; dsimp only at hf
        refine r_callv rfl xvX12_partAt xm12_537 (kf_m_partAt (d := d) L32 e34) (LY.lt L32 (by decide)) (LY.k1262 L32) (by decide) rfl rfl (by omega) (by decide) (Nat.le_of_ble_eq_true rfl) ?_
        rintro _ _ ⟨⟨rfl, rfl⟩, L35⟩
        refine XS.go (s_istore rfl (Nat.le_of_ble_eq_true rfl)) ?_
        refine XS.go (s_iload rfl rfl) ?_
        refine XS.go (s_iconst (v := (-1)) rfl rfl) ?_
        refine r_icmp_eq (tgt := 60) rfl rfl (fun qc36 => ?_) (fun qc36 => ?_)
        · rw [if_pos qc36] at hf
          refine XS.go (s_iconst (v := 0) rfl rfl) ?_
          cases hf
          exact XR.retz rfl rfl (by decide) (fun hret => ⟨_, hret, ⟨rfl, rfl⟩, L35⟩)
        · rw [if_neg qc36] at hf
          refine XS.go (s_iload rfl rfl) ?_
          refine XS.go (s_lloadn rfl rfl rfl) ?_
          rcases e38 : f_m_isValue r30.1 a1 r33.2 with _ | r37
          · rw [e38] at hf; cases hf
          rw [e38] at hf; dsimp only at hf
          refine r_calls rfl xsX12_isValue xm12_334 (kf_m_isValue (d := d) L35 e38) rfl rfl (by omega) (by decide) (Nat.le_of_ble_eq_true rfl) ?_
          rintro _ _ ⟨⟨rfl, rfl⟩, L39⟩
          refine r_if_ne (tgt := 62) rfl rfl (fun qc40 => ?_) (fun qc40 => ?_)
          · rw [if_pos qc40] at hf
            refine XS.go (s_iconst (v := 0) rfl rfl) ?_
            refine XS.go (s_istore rfl (Nat.le_of_ble_eq_true rfl)) ?_
            exact XR.forget (L2 := [some (.ref 1262), none, some (.long a1), none, some (.int r30.1), some (.int r33.1), some (.int 0)]) ⟨rfl, ⟨rfl, ⟨rfl, ⟨rfl, ⟨rfl, trivial⟩⟩⟩⟩⟩ (kb_m_write_65 L39 hf)
          · rw [if_neg qc40] at hf
            refine XS.go (s_iconst (v := 0) rfl rfl) ?_
            cases hf
            exact XR.retz rfl rfl (by decide) (fun hret => ⟨_, hret, ⟨rfl, rfl⟩, L39⟩)
      · rw [if_neg qc29] at hf
        refine XS.go (s_iconst (v := 0) rfl rfl) ?_
        cases hf
        exact XR.retz rfl rfl (by decide) (fun hret => ⟨_, hret, ⟨rfl, rfl⟩, L28⟩)
def f_m_byteAt (a0 : Int32) (h : XH) : Option (Int32 × XH) := (if (hi h 1262 81) = 0 then (some ((-1), (hsi h 1262 0 0))) else (if a0 < 0 then (some ((-1), (hsi h 1262 0 0))) else (if (hi h 1262 80) ≤ a0 then (some ((-1), (hsi h 1262 0 0))) else (if 0 ≤ a0 ∧ a0 < nI 4000 then (some ((hi h 1311 (Int32.toNatClampNeg a0)), (hsi h 1262 0 0))) else none))))
set_option maxRecDepth 20000 in
theorem kf_m_byteAt {l : Launch} {G : XG} {d : Nat} {a0 : Int32} {h : XH} {r : Int32 × XH} (L0 : LY h) (hf : f_m_byteAt a0 h = some r) : XC l G xEX12_byteAt d [.ref 1262, .int a0] h (fun v h2 => (h2 = r.2 ∧ v = some (.int r.1)) ∧ LY r.2) := by
  refine XC.virt xvX12_byteAt (Nat.le_of_ble_eq_true rfl) ?_
  unfold f_m_byteAt at hf
  refine XS.go (s_aloadn rfl rfl rfl) ?_
  refine XS.go (s_iconst (v := 0) rfl rfl) ?_
  refine XS.go (s_puti rfl xf12_175 (LY.lt L0 (by decide)) (LY.k1262 L0) (by decide) rfl (Or.inl rfl)) ?_
  refine XS.go (s_aloadn rfl rfl rfl) ?_
  refine XS.go (s_getze rfl xf12_360 (LY.lt (by simp only [LY_si, LY_sj]; exact L0) (by decide)) (LY.k1262 (by simp only [LY_si, LY_sj]; exact L0)) (by decide) rfl (hi_hsi_nk (by decide))) ?_
  refine r_if_eq (tgt := 33) rfl rfl (fun qc1 => ?_) (fun qc1 => ?_)
  · rw [if_pos qc1] at hf
    refine XS.go (s_iconst (v := (-1)) rfl rfl) ?_
    cases hf
    exact XR.reti rfl rfl (fun hret => ⟨_, hret, ⟨rfl, rfl⟩, (by simp only [LY_si, LY_sj]; exact L0)⟩)
  · rw [if_neg qc1] at hf
    refine XS.go (s_iloadn rfl rfl rfl) ?_
    refine r_if_lt (tgt := 33) rfl rfl (fun qc2 => ?_) (fun qc2 => ?_)
    · rw [if_pos qc2] at hf
      refine XS.go (s_iconst (v := (-1)) rfl rfl) ?_
      cases hf
      exact XR.reti rfl rfl (fun hret => ⟨_, hret, ⟨rfl, rfl⟩, (by simp only [LY_si, LY_sj]; exact L0)⟩)
    · rw [if_neg qc2] at hf
      refine XS.go (s_iloadn rfl rfl rfl) ?_
      refine XS.go (s_aloadn rfl rfl rfl) ?_
      refine XS.go (s_getie rfl xf12_444 (LY.lt (by simp only [LY_si, LY_sj]; exact L0) (by decide)) (LY.k1262 (by simp only [LY_si, LY_sj]; exact L0)) (by decide) rfl (hi_hsi_nk (by decide))) ?_
      refine r_icmp_ge (tgt := 33) rfl rfl (fun qc3 => ?_) (fun qc3 => ?_)
      · rw [if_pos qc3] at hf
        refine XS.go (s_iconst (v := (-1)) rfl rfl) ?_
        cases hf
        exact XR.reti rfl rfl (fun hret => ⟨_, hret, ⟨rfl, rfl⟩, (by simp only [LY_si, LY_sj]; exact L0)⟩)
      · rw [if_neg qc3] at hf
        refine XS.go (s_aloadn rfl rfl rfl) ?_
        refine XS.go (s_getr rfl xf12_160 (LY.lt (by simp only [LY_si, LY_sj]; exact L0) (by decide)) (LY.k1262 (by simp only [LY_si, LY_sj]; exact L0)) (by decide) rfl (LY.r1262_79 (by simp only [LY_si, LY_sj]; exact L0))) ?_
        refine XS.go (s_iloadn rfl rfl rfl) ?_
        by_cases qk4 : 0 ≤ a0 ∧ a0 < nI 4000
        rotate_left
        · rw [if_neg qk4] at hf; cases hf
        rw [if_pos qk4] at hf
        refine XS.go (s_ialde rfl (LY.lt (by simp only [LY_si, LY_sj]; exact L0) (by decide)) (LY.k1311 (by simp only [LY_si, LY_sj]; exact L0)) (inLit (LY.n1311 (by simp only [LY_si, LY_sj]; exact L0)) qk4.1 qk4.2 (by decide)) (hi_hsi_na (by decide))) ?_
        refine XS.go (s_goto (tgt := 34) rfl rfl) ?_
        cases hf
        exact XR.reti rfl rfl (fun hret => ⟨_, hret, ⟨rfl, rfl⟩, (by simp only [LY_si, LY_sj]; exact L0)⟩)
