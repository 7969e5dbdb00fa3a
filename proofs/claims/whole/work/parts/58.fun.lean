/-! Methods as functions of the heap -/
def f_m_thrown (h : XH) : Option (Int32 × XH) := (some ((hi h 1262 0), h))
set_option maxRecDepth 20000 in
theorem kf_m_thrown {l : Launch} {G : XG} {d : Nat} {h : XH} {r : Int32 × XH} (L0 : LY h) (hf : f_m_thrown h = some r) : XC l G xEX12_thrown d [.ref 1262] h (fun v h2 => (h2 = r.2 ∧ v = some (.int r.1)) ∧ LY r.2) := by
  refine XC.virt xvX12_thrown (Nat.le_of_ble_eq_true rfl) ?_
  unfold f_m_thrown at hf
  refine XS.go (s_aloadn rfl rfl rfl) ?_
  refine XS.go (s_getie rfl xf12_175 (LY.lt L0 (by decide)) (LY.k1262 L0) (by decide) rfl rfl) ?_
  cases hf
  exact XR.reti rfl rfl (fun hret => ⟨_, hret, ⟨rfl, rfl⟩, L0⟩)
def b_m_feed_73 (K20 : Int32 → Int32 → Int32 → Int32 → Int32 → Int32 → XH → Option (Int32 × XH)) (x1 : Int32) (x2 : Int32) (x3 : Int32) (x4 : Int32) (x5 : Int32) (x6 : Int32) (y0 : Int32) (h : XH) : Option (Int32 × XH) := (if 0 ≤ ((hi h 1262 2) + x6) ∧ ((hi h 1262 2) + x6) < nI 4000 then (K20 x1 x2 x3 x4 x5 (x6 + 1) (hsi h 1263 (Int32.toNatClampNeg ((hi h 1262 2) + x6)) ((y0 >>> ((8 * (3 - (x6 - x6 / 4 * 4))) &&& 31)) &&& 255))) else none)
set_option maxRecDepth 20000 in
theorem kb_m_feed_73 {l : Launch} {G : XG} {d : Nat} {K20 : Int32 → Int32 → Int32 → Int32 → Int32 → Int32 → XH → Option (Int32 × XH)} {x1 : Int32} {x2 : Int32} {x3 : Int32} {x4 : Int32} {x5 : Int32} {x6 : Int32} {y0 : Int32} {h : XH} {r : Int32 × XH} (hK20 : ∀ (x1 : Int32) (x2 : Int32) (x3 : Int32) (x4 : Int32) (x5 : Int32) (x6 : Int32) (h : XH), LY h → K20 x1 x2 x3 x4 x5 x6 h = some r → XR l G xEX12_feed d (20, [some (.ref 1262), some (.int x1), some (.int x2), some (.int x3), some (.int x4), some (.int x5), some (.int x6), none], [], h) (fun C => ∃ v, xRet xEX12_feed C v ∧ (C.2.2.2 = r.2 ∧ v = some (.int r.1)) ∧ LY r.2)) (L0 : LY h) (hf : b_m_feed_73 K20 x1 x2 x3 x4 x5 x6 y0 h = some r) : XR l G xEX12_feed d (73, [some (.ref 1262), some (.int x1), some (.int x2), some (.int x3), some (.int x4), some (.int x5), some (.int x6), none], [(.int y0)], h) (fun C => ∃ v, xRet xEX12_feed C v ∧ (C.2.2.2 = r.2 ∧ v = some (.int r.1)) ∧ LY r.2) := by
  unfold b_m_feed_73 at hf
  refine XS.go (s_istore rfl (Nat.le_of_ble_eq_true rfl)) ?_
  refine XS.go (s_aloadn rfl rfl rfl) ?_
  refine XS.go (s_getr rfl xf12_9 (LY.lt L0 (by decide)) (LY.k1262 L0) (by decide) rfl (LY.r1262_1 L0)) ?_
  refine XS.go (s_aloadn rfl rfl rfl) ?_
  refine XS.go (s_getie rfl xf12_178 (LY.lt L0 (by decide)) (LY.k1262 L0) (by decide) rfl rfl) ?_
  refine XS.go (s_iload rfl rfl) ?_
  refine XS.go (s_iadd rfl) ?_
  refine XS.go (s_iload rfl rfl) ?_
  refine XS.go (s_bipush (v := 8) rfl rfl) ?_
  refine XS.go (s_iconst (v := 3) rfl rfl) ?_
  refine XS.go (s_iload rfl rfl) ?_
  refine XS.go (s_iconst (v := 4) rfl rfl) ?_
  refine XS.go (s_irem (by decide) rfl) ?_
  refine XS.go (s_isub rfl) ?_
  refine XS.go (s_imul rfl) ?_
  refine XS.go (s_ishr rfl) ?_
  refine XS.go (s_sipush (v := 255) rfl rfl) ?_
  refine XS.go (s_iand rfl) ?_
  by_cases qk1 : 0 ≤ ((hi h 1262 2) + x6) ∧ ((hi h 1262 2) + x6) < nI 4000
  rotate_left
  · rw [if_neg qk1] at hf; cases hf
  rw [if_pos qk1] at hf
  refine XS.go (s_iast rfl (LY.lt L0 (by decide)) (LY.k1263 L0) (inLit (LY.n1263 L0) qk1.1 qk1.2 (by decide))) ?_
  refine XS.go (s_inc rfl rfl (Nat.le_of_ble_eq_true rfl)) ?_
  refine XS.go (s_goto (tgt := 20) rfl rfl) ?_
  exact XR.forget (L2 := [some (.ref 1262), some (.int x1), some (.int x2), some (.int x3), some (.int x4), some (.int x5), some (.int (x6 + 1)), none]) ⟨rfl, ⟨rfl, ⟨rfl, ⟨rfl, ⟨rfl, ⟨rfl, ⟨rfl, trivial⟩⟩⟩⟩⟩⟩⟩ (hK20 x1 x2 x3 x4 x5 (x6 + 1) _ (by simp only [LY_si, LY_sj]; exact L0) hf)
def s_m_feed_20 (K20 : Int32 → Int32 → Int32 → Int32 → Int32 → Int32 → XH → Option (Int32 × XH)) (x1 : Int32) (x2 : Int32) (x3 : Int32) (x4 : Int32) (x5 : Int32) (x6 : Int32) (h : XH) : Option (Int32 × XH) := (if 20 ≤ x6 then (some (((hi h 1262 2) + 20), (hsi h 1262 2 ((hi h 1262 2) + 20)))) else (if 4 ≤ x6 then (if 8 ≤ x6 then (if 12 ≤ x6 then (if 16 ≤ x6 then (b_m_feed_73 K20 x1 x2 x3 x4 x5 x6 x5 h) else (b_m_feed_73 K20 x1 x2 x3 x4 x5 x6 x4 h)) else (b_m_feed_73 K20 x1 x2 x3 x4 x5 x6 x3 h)) else (b_m_feed_73 K20 x1 x2 x3 x4 x5 x6 x2 h)) else (b_m_feed_73 K20 x1 x2 x3 x4 x5 x6 x1 h)))
set_option maxRecDepth 20000 in
theorem ks_m_feed_20 {l : Launch} {G : XG} {d : Nat} {K20 : Int32 → Int32 → Int32 → Int32 → Int32 → Int32 → XH → Option (Int32 × XH)} {x1 : Int32} {x2 : Int32} {x3 : Int32} {x4 : Int32} {x5 : Int32} {x6 : Int32} {h : XH} {r : Int32 × XH} (hK20 : ∀ (x1 : Int32) (x2 : Int32) (x3 : Int32) (x4 : Int32) (x5 : Int32) (x6 : Int32) (h : XH), LY h → K20 x1 x2 x3 x4 x5 x6 h = some r → XR l G xEX12_feed d (20, [some (.ref 1262), some (.int x1), some (.int x2), some (.int x3), some (.int x4), some (.int x5), some (.int x6), none], [], h) (fun C => ∃ v, xRet xEX12_feed C v ∧ (C.2.2.2 = r.2 ∧ v = some (.int r.1)) ∧ LY r.2)) (L0 : LY h) (hf : s_m_feed_20 K20 x1 x2 x3 x4 x5 x6 h = some r) : XR l G xEX12_feed d (20, [some (.ref 1262), some (.int x1), some (.int x2), some (.int x3), some (.int x4), some (.int x5), some (.int x6), none], [], h) (fun C => ∃ v, xRet xEX12_feed C v ∧ (C.2.2.2 = r.2 ∧ v = some (.int r.1)) ∧ LY r.2) := by
  unfold s_m_feed_20 at hf
  refine XS.go (s_iload rfl rfl) ?_
  refine XS.go (s_bipush (v := 20) rfl rfl) ?_
  refine r_icmp_ge (tgt := 109) rfl rfl (fun qc2 => ?_) (fun qc2 => ?_)
  · rw [if_pos qc2] at hf
    refine XS.go (s_aloadn rfl rfl rfl) ?_
    refine XS.go (s_dup rfl rfl) ?_
    refine XS.go (s_getie rfl xf12_178 (LY.lt L0 (by decide)) (LY.k1262 L0) (by decide) rfl rfl) ?_
    refine XS.go (s_bipush (v := 20) rfl rfl) ?_
    refine XS.go (s_iadd rfl) ?_
    refine XS.go (s_puti rfl xf12_178 (LY.lt L0 (by decide)) (LY.k1262 L0) (by decide) rfl (Or.inl rfl)) ?_
    refine XS.go (s_aloadn rfl rfl rfl) ?_
    refine XS.go (s_getie rfl xf12_178 (LY.lt (by simp only [LY_si, LY_sj]; exact L0) (by decide)) (LY.k1262 (by simp only [LY_si, LY_sj]; exact L0)) (by decide) rfl hi_hsi_eq) ?_
    cases hf
    exact XR.reti rfl rfl (fun hret => ⟨_, hret, ⟨rfl, rfl⟩, (by simp only [LY_si, LY_sj]; exact L0)⟩)
  · rw [if_neg qc2] at hf
    refine XS.go (s_iload rfl rfl) ?_
    refine XS.go (s_iconst (v := 4) rfl rfl) ?_
    refine r_icmp_ge (tgt := 37) rfl rfl (fun qc3 => ?_) (fun qc3 => ?_)
    · rw [if_pos qc3] at hf
      refine XS.go (s_iload rfl rfl) ?_
      refine XS.go (s_bipush (v := 8) rfl rfl) ?_
      refine r_icmp_ge (tgt := 48) rfl rfl (fun qc4 => ?_) (fun qc4 => ?_)
      · rw [if_pos qc4] at hf
        refine XS.go (s_iload rfl rfl) ?_
        refine XS.go (s_bipush (v := 12) rfl rfl) ?_
        refine r_icmp_ge (tgt := 59) rfl rfl (fun qc5 => ?_) (fun qc5 => ?_)
        · rw [if_pos qc5] at hf
          refine XS.go (s_iload rfl rfl) ?_
          refine XS.go (s_bipush (v := 16) rfl rfl) ?_
          refine r_icmp_ge (tgt := 71) rfl rfl (fun qc6 => ?_) (fun qc6 => ?_)
          · rw [if_pos qc6] at hf
            refine XS.go (s_iload rfl rfl) ?_
            exact XR.forget (L2 := [some (.ref 1262), some (.int x1), some (.int x2), some (.int x3), some (.int x4), some (.int x5), some (.int x6), none]) ⟨rfl, ⟨rfl, ⟨rfl, ⟨rfl, ⟨rfl, ⟨rfl, ⟨rfl, trivial⟩⟩⟩⟩⟩⟩⟩ (kb_m_feed_73 hK20 L0 hf)
          · rw [if_neg qc6] at hf
            refine XS.go (s_iload rfl rfl) ?_
            refine XS.go (s_goto (tgt := 73) rfl rfl) ?_
            exact XR.forget (L2 := [some (.ref 1262), some (.int x1), some (.int x2), some (.int x3), some (.int x4), some (.int x5), some (.int x6), none]) ⟨rfl, ⟨rfl, ⟨rfl, ⟨rfl, ⟨rfl, ⟨rfl, ⟨rfl, trivial⟩⟩⟩⟩⟩⟩⟩ (kb_m_feed_73 hK20 L0 hf)
        · rw [if_neg qc5] at hf
          refine XS.go (s_iloadn rfl rfl rfl) ?_
          refine XS.go (s_goto (tgt := 73) rfl rfl) ?_
          exact XR.forget (L2 := [some (.ref 1262), some (.int x1), some (.int x2), some (.int x3), some (.int x4), some (.int x5), some (.int x6), none]) ⟨rfl, ⟨rfl, ⟨rfl, ⟨rfl, ⟨rfl, ⟨rfl, ⟨rfl, trivial⟩⟩⟩⟩⟩⟩⟩ (kb_m_feed_73 hK20 L0 hf)
      · rw [if_neg qc4] at hf
        refine XS.go (s_iloadn rfl rfl rfl) ?_
        refine XS.go (s_goto (tgt := 73) rfl rfl) ?_
        exact XR.forget (L2 := [some (.ref 1262), some (.int x1), some (.int x2), some (.int x3), some (.int x4), some (.int x5), some (.int x6), none]) ⟨rfl, ⟨rfl, ⟨rfl, ⟨rfl, ⟨rfl, ⟨rfl, ⟨rfl, trivial⟩⟩⟩⟩⟩⟩⟩ (kb_m_feed_73 hK20 L0 hf)
    · rw [if_neg qc3] at hf
      refine XS.go (s_iloadn rfl rfl rfl) ?_
      refine XS.go (s_goto (tgt := 73) rfl rfl) ?_
      exact XR.forget (L2 := [some (.ref 1262), some (.int x1), some (.int x2), some (.int x3), some (.int x4), some (.int x5), some (.int x6), none]) ⟨rfl, ⟨rfl, ⟨rfl, ⟨rfl, ⟨rfl, ⟨rfl, ⟨rfl, trivial⟩⟩⟩⟩⟩⟩⟩ (kb_m_feed_73 hK20 L0 hf)
def b_m_feed_20 : Nat → Int32 → Int32 → Int32 → Int32 → Int32 → Int32 → XH → Option (Int32 × XH)
  | 0, _, _, _, _, _, _, _ => none
  | n + 1, x1, x2, x3, x4, x5, x6, h => s_m_feed_20 (b_m_feed_20 n) x1 x2 x3 x4 x5 x6 h
theorem kb_m_feed_20 {l : Launch} {G : XG} {d : Nat} {n : Nat} {x1 : Int32} {x2 : Int32} {x3 : Int32} {x4 : Int32} {x5 : Int32} {x6 : Int32} {h : XH} {r : Int32 × XH} (L0 : LY h) (hf : b_m_feed_20 n x1 x2 x3 x4 x5 x6 h = some r) : XR l G xEX12_feed d (20, [some (.ref 1262), some (.int x1), some (.int x2), some (.int x3), some (.int x4), some (.int x5), some (.int x6), none], [], h) (fun C => ∃ v, xRet xEX12_feed C v ∧ (C.2.2.2 = r.2 ∧ v = some (.int r.1)) ∧ LY r.2) := by
  induction n generalizing x1 x2 x3 x4 x5 x6 h with
  | zero => cases hf
  | succ n ih => exact ks_m_feed_20 (fun x1 x2 x3 x4 x5 x6 h L0 hf => ih (h := h) (x1 := x1) (x2 := x2) (x3 := x3) (x4 := x4) (x5 := x5) (x6 := x6) L0 hf) L0 hf
def f_m_feed (a0 : Int32) (a1 : Int32) (a2 : Int32) (a3 : Int32) (a4 : Int32) (h : XH) : Option (Int32 × XH) := (if (hi h 1262 2) ≤ 3980 then (b_m_feed_20 100000 a0 a1 a2 a3 a4 0 (hsi h 1262 0 0)) else (some ((-1), (hsi h 1262 0 0))))
set_option maxRecDepth 20000 in
theorem kf_m_feed {l : Launch} {G : XG} {d : Nat} {a0 : Int32} {a1 : Int32} {a2 : Int32} {a3 : Int32} {a4 : Int32} {h : XH} {r : Int32 × XH} (L0 : LY h) (hf : f_m_feed a0 a1 a2 a3 a4 h = some r) : XC l G xEX12_feed d [.ref 1262, .int a0, .int a1, .int a2, .int a3, .int a4] h (fun v h2 => (h2 = r.2 ∧ v = some (.int r.1)) ∧ LY r.2) := by
  refine XC.virt xvX12_feed (Nat.le_of_ble_eq_true rfl) ?_
  unfold f_m_feed at hf
  refine XS.go (s_aloadn rfl rfl rfl) ?_
  refine XS.go (s_iconst (v := 0) rfl rfl) ?_
  refine XS.go (s_puti rfl xf12_175 (LY.lt L0 (by decide)) (LY.k1262 L0) (by decide) rfl (Or.inl rfl)) ?_
  refine XS.go (s_aloadn rfl rfl rfl) ?_
  refine XS.go (s_getie rfl xf12_178 (LY.lt (by simp only [LY_si, LY_sj]; exact L0) (by decide)) (LY.k1262 (by simp only [LY_si, LY_sj]; exact L0)) (by decide) rfl (hi_hsi_nk (by decide))) ?_
  refine XS.go (s_sipush (v := 3980) rfl rfl) ?_
  refine r_icmp_le (tgt := 17) rfl rfl (fun qc7 => ?_) (fun qc7 => ?_)
  · rw [if_pos qc7] at hf
    refine XS.go (s_iconst (v := 0) rfl rfl) ?_
    refine XS.go (s_istore rfl (Nat.le_of_ble_eq_true rfl)) ?_
    exact XR.forget (L2 := [some (.ref 1262), some (.int a0), some (.int a1), some (.int a2), some (.int a3), some (.int a4), some (.int 0), none]) ⟨rfl, ⟨rfl, ⟨rfl, ⟨rfl, ⟨rfl, ⟨rfl, ⟨rfl, trivial⟩⟩⟩⟩⟩⟩⟩ (kb_m_feed_20 (by simp only [LY_si, LY_sj]; exact L0) hf)
  · rw [if_neg qc7] at hf
    refine XS.go (s_iconst (v := (-1)) rfl rfl) ?_
    cases hf
    exact XR.reti rfl rfl (fun hret => ⟨_, hret, ⟨rfl, rfl⟩, (by simp only [LY_si, LY_sj]; exact L0)⟩)
def f_m_end (a0 : Int32) (h : XH) : Option (Int32 × XH) := (if a0 < 0 then (some (0, (hsi h 1262 0 0))) else (if a0 ≤ (hi h 1262 2) then (some (1, (hsi (hsi h 1262 0 0) 1262 2 a0))) else (some (0, (hsi h 1262 0 0)))))
set_option maxRecDepth 20000 in
theorem kf_m_end {l : Launch} {G : XG} {d : Nat} {a0 : Int32} {h : XH} {r : Int32 × XH} (L0 : LY h) (hf : f_m_end a0 h = some r) : XC l G xEX12_end d [.ref 1262, .int a0] h (fun v h2 => (h2 = r.2 ∧ v = some (.int r.1)) ∧ LY r.2) := by
  refine XC.virt xvX12_end (Nat.le_of_ble_eq_true rfl) ?_
  unfold f_m_end at hf
  refine XS.go (s_aloadn rfl rfl rfl) ?_
  refine XS.go (s_iconst (v := 0) rfl rfl) ?_
  refine XS.go (s_puti rfl xf12_175 (LY.lt L0 (by decide)) (LY.k1262 L0) (by decide) rfl (Or.inl rfl)) ?_
  refine XS.go (s_iloadn rfl rfl rfl) ?_
  refine r_if_lt (tgt := 17) rfl rfl (fun qc1 => ?_) (fun qc1 => ?_)
  · rw [if_pos qc1] at hf
    refine XS.go (s_iconst (v := 0) rfl rfl) ?_
    cases hf
    exact XR.retz rfl rfl (by decide) (fun hret => ⟨_, hret, ⟨rfl, rfl⟩, (by simp only [LY_si, LY_sj]; exact L0)⟩)
  · rw [if_neg qc1] at hf
    refine XS.go (s_iloadn rfl rfl rfl) ?_
    refine XS.go (s_aloadn rfl rfl rfl) ?_
    refine XS.go (s_getie rfl xf12_178 (LY.lt (by simp only [LY_si, LY_sj]; exact L0) (by decide)) (LY.k1262 (by simp only [LY_si, LY_sj]; exact L0)) (by decide) rfl (hi_hsi_nk (by decide))) ?_
    refine r_icmp_le (tgt := 19) rfl rfl (fun qc2 => ?_) (fun qc2 => ?_)
    · rw [if_pos qc2] at hf
      refine XS.go (s_aloadn rfl rfl rfl) ?_
      refine XS.go (s_iloadn rfl rfl rfl) ?_
      refine XS.go (s_puti rfl xf12_178 (LY.lt (by simp only [LY_si, LY_sj]; exact L0) (by decide)) (LY.k1262 (by simp only [LY_si, LY_sj]; exact L0)) (by decide) rfl (Or.inl rfl)) ?_
      refine XS.go (s_iconst (v := 1) rfl rfl) ?_
      cases hf
      exact XR.retz rfl rfl (by decide) (fun hret => ⟨_, hret, ⟨rfl, rfl⟩, (by simp only [LY_si, LY_sj]; exact L0)⟩)
    · rw [if_neg qc2] at hf
      refine XS.go (s_iconst (v := 0) rfl rfl) ?_
      cases hf
      exact XR.retz rfl rfl (by decide) (fun hret => ⟨_, hret, ⟨rfl, rfl⟩, (by simp only [LY_si, LY_sj]; exact L0)⟩)
def f_m_signAt (a0 : Int32) (h : XH) : Option (Int32 × XH) := (if (hi h 1262 5) ≤ a0 then (some ((-1), h)) else (if 0 ≤ a0 ∧ a0 < nI 4000 then (some ((hi h 1264 (Int32.toNatClampNeg a0)), h)) else none))
set_option maxRecDepth 20000 in
theorem kf_m_signAt {l : Launch} {G : XG} {d : Nat} {a0 : Int32} {h : XH} {r : Int32 × XH} (L0 : LY h) (hf : f_m_signAt a0 h = some r) : XC l G xEX12_signAt d [.ref 1262, .int a0] h (fun v h2 => (h2 = r.2 ∧ v = some (.int r.1)) ∧ LY r.2) := by
  refine XC.virt xvX12_signAt (Nat.le_of_ble_eq_true rfl) ?_
  unfold f_m_signAt at hf
  refine XS.go (s_iloadn rfl rfl rfl) ?_
  refine XS.go (s_aloadn rfl rfl rfl) ?_
  refine XS.go (s_getie rfl xf12_181 (LY.lt L0 (by decide)) (LY.k1262 L0) (by decide) rfl rfl) ?_
  refine r_icmp_ge (tgt := 17) rfl rfl (fun qc1 => ?_) (fun qc1 => ?_)
  · rw [if_pos qc1] at hf
    refine XS.go (s_iconst (v := (-1)) rfl rfl) ?_
    cases hf
    exact XR.reti rfl rfl (fun hret => ⟨_, hret, ⟨rfl, rfl⟩, L0⟩)
  · rw [if_neg qc1] at hf
    refine XS.go (s_aloadn rfl rfl rfl) ?_
    refine XS.go (s_getr rfl xf12_13 (LY.lt L0 (by decide)) (LY.k1262 L0) (by decide) rfl (LY.r1262_3 L0)) ?_
    refine XS.go (s_iloadn rfl rfl rfl) ?_
    by_cases qk2 : 0 ≤ a0 ∧ a0 < nI 4000
    rotate_left
    · rw [if_neg qk2] at hf; cases hf
    rw [if_pos qk2] at hf
    refine XS.go (s_ialde rfl (LY.lt L0 (by decide)) (LY.k1264 L0) (inLit (LY.n1264 L0) qk2.1 qk2.2 (by decide)) rfl) ?_
    refine XS.go (s_goto (tgt := 18) rfl rfl) ?_
    cases hf
    exact XR.reti rfl rfl (fun hret => ⟨_, hret, ⟨rfl, rfl⟩, L0⟩)
def f_m_isDigit (a0 : Int32) (h : XH) : Option (Int32 × XH) := (if a0 < 48 then (some (0, h)) else (if 57 < a0 then (some (0, h)) else (some (1, h))))
set_option maxRecDepth 20000 in
theorem kf_m_isDigit {l : Launch} {G : XG} {d : Nat} {a0 : Int32} {h : XH} {r : Int32 × XH} (L0 : LY h) (hf : f_m_isDigit a0 h = some r) : XC l G xEX12_isDigit d [.int a0] h (fun v h2 => (h2 = r.2 ∧ v = some (.int r.1)) ∧ LY r.2) := by
  refine XC.stat xsX12_isDigit (Nat.le_of_ble_eq_true rfl) ?_
  unfold f_m_isDigit at hf
  refine XS.go (s_iloadn rfl rfl rfl) ?_
  refine XS.go (s_bipush (v := 48) rfl rfl) ?_
  refine r_icmp_lt (tgt := 16) rfl rfl (fun qc1 => ?_) (fun qc1 => ?_)
  · rw [if_pos qc1] at hf
    refine XS.go (s_iconst (v := 0) rfl rfl) ?_
    cases hf
    exact XR.retz rfl rfl (by decide) (fun hret => ⟨_, hret, ⟨rfl, rfl⟩, L0⟩)
  · rw [if_neg qc1] at hf
    refine XS.go (s_iloadn rfl rfl rfl) ?_
    refine XS.go (s_bipush (v := 57) rfl rfl) ?_
    refine r_icmp_gt (tgt := 16) rfl rfl (fun qc2 => ?_) (fun qc2 => ?_)
    · rw [if_pos qc2] at hf
      refine XS.go (s_iconst (v := 0) rfl rfl) ?_
      cases hf
      exact XR.retz rfl rfl (by decide) (fun hret => ⟨_, hret, ⟨rfl, rfl⟩, L0⟩)
    · rw [if_neg qc2] at hf
      refine XS.go (s_iconst (v := 1) rfl rfl) ?_
      refine XS.go (s_goto (tgt := 17) rfl rfl) ?_
      cases hf
      exact XR.retz rfl rfl (by decide) (fun hret => ⟨_, hret, ⟨rfl, rfl⟩, L0⟩)
def b_m_isLetter_30 (h : XH) : Option (Int32 × XH) := (some (1, h))
set_option maxRecDepth 20000 in
theorem kb_m_isLetter_30 {l : Launch} {G : XG} {d : Nat} {h : XH} {r : Int32 × XH} (L0 : LY h) (hf : b_m_isLetter_30 h = some r) : XR l G xEX12_isLetter d (30, [none], [], h) (fun C => ∃ v, xRet xEX12_isLetter C v ∧ (C.2.2.2 = r.2 ∧ v = some (.int r.1)) ∧ LY r.2) := by
  unfold b_m_isLetter_30 at hf
  refine XS.go (s_iconst (v := 1) rfl rfl) ?_
  refine XS.go (s_goto (tgt := 35) rfl rfl) ?_
  cases hf
  exact XR.retz rfl rfl (by decide) (fun hret => ⟨_, hret, ⟨rfl, rfl⟩, L0⟩)
def b_m_isLetter_24 (x0 : Int32) (h : XH) : Option (Int32 × XH) := (if ¬ x0 = 95 then (some (0, h)) else (b_m_isLetter_30 h))
set_option maxRecDepth 20000 in
theorem kb_m_isLetter_24 {l : Launch} {G : XG} {d : Nat} {x0 : Int32} {h : XH} {r : Int32 × XH} (L0 : LY h) (hf : b_m_isLetter_24 x0 h = some r) : XR l G xEX12_isLetter d (24, [some (.int x0)], [], h) (fun C => ∃ v, xRet xEX12_isLetter C v ∧ (C.2.2.2 = r.2 ∧ v = some (.int r.1)) ∧ LY r.2) := by
  unfold b_m_isLetter_24 at hf
  refine XS.go (s_iloadn rfl rfl rfl) ?_
  refine XS.go (s_bipush (v := 95) rfl rfl) ?_
  refine r_icmp_ne (tgt := 34) rfl rfl (fun qc1 => ?_) (fun qc1 => ?_)
  · rw [if_pos qc1] at hf
    refine XS.go (s_iconst (v := 0) rfl rfl) ?_
    cases hf
    exact XR.retz rfl rfl (by decide) (fun hret => ⟨_, hret, ⟨rfl, rfl⟩, L0⟩)
  · rw [if_neg qc1] at hf
    exact XR.forget (L2 := [none]) trivial (kb_m_isLetter_30 L0 hf)
def b_m_isLetter_12 (x0 : Int32) (h : XH) : Option (Int32 × XH) := (if x0 < 65 then (b_m_isLetter_24 x0 h) else (if x0 ≤ 90 then (b_m_isLetter_30 h) else (b_m_isLetter_24 x0 h)))
set_option maxRecDepth 20000 in
theorem kb_m_isLetter_12 {l : Launch} {G : XG} {d : Nat} {x0 : Int32} {h : XH} {r : Int32 × XH} (L0 : LY h) (hf : b_m_isLetter_12 x0 h = some r) : XR l G xEX12_isLetter d (12, [some (.int x0)], [], h) (fun C => ∃ v, xRet xEX12_isLetter C v ∧ (C.2.2.2 = r.2 ∧ v = some (.int r.1)) ∧ LY r.2) := by
  unfold b_m_isLetter_12 at hf
  refine XS.go (s_iloadn rfl rfl rfl) ?_
  refine XS.go (s_bipush (v := 65) rfl rfl) ?_
  refine r_icmp_lt (tgt := 24) rfl rfl (fun qc2 => ?_) (fun qc2 => ?_)
  · rw [if_pos qc2] at hf
    exact XR.forget (L2 := [some (.int x0)]) ⟨rfl, trivial⟩ (kb_m_isLetter_24 L0 hf)
  · rw [if_neg qc2] at hf
    refine XS.go (s_iloadn rfl rfl rfl) ?_
    refine XS.go (s_bipush (v := 90) rfl rfl) ?_
    refine r_icmp_le (tgt := 30) rfl rfl (fun qc3 => ?_) (fun qc3 => ?_)
    · rw [if_pos qc3] at hf
      exact XR.forget (L2 := [none]) trivial (kb_m_isLetter_30 L0 hf)
    · rw [if_neg qc3] at hf
      exact XR.forget (L2 := [some (.int x0)]) ⟨rfl, trivial⟩ (kb_m_isLetter_24 L0 hf)
def f_m_isLetter (a0 : Int32) (h : XH) : Option (Int32 × XH) := (if a0 < 97 then (b_m_isLetter_12 a0 h) else (if a0 ≤ 122 then (b_m_isLetter_30 h) else (b_m_isLetter_12 a0 h)))
set_option maxRecDepth 20000 in
theorem kf_m_isLetter {l : Launch} {G : XG} {d : Nat} {a0 : Int32} {h : XH} {r : Int32 × XH} (L0 : LY h) (hf : f_m_isLetter a0 h = some r) : XC l G xEX12_isLetter d [.int a0] h (fun v h2 => (h2 = r.2 ∧ v = some (.int r.1)) ∧ LY r.2) := by
  refine XC.stat xsX12_isLetter (Nat.le_of_ble_eq_true rfl) ?_
  unfold f_m_isLetter at hf
  refine XS.go (s_iloadn rfl rfl rfl) ?_
  refine XS.go (s_bipush (v := 97) rfl rfl) ?_
  refine r_icmp_lt (tgt := 12) rfl rfl (fun qc4 => ?_) (fun qc4 => ?_)
  · rw [if_pos qc4] at hf
    exact XR.forget (L2 := [some (.int a0)]) ⟨rfl, trivial⟩ (kb_m_isLetter_12 L0 hf)
  · rw [if_neg qc4] at hf
    refine XS.go (s_iloadn rfl rfl rfl) ?_
    refine XS.go (s_bipush (v := 122) rfl rfl) ?_
    refine r_icmp_le (tgt := 30) rfl rfl (fun qc5 => ?_) (fun qc5 => ?_)
    · rw [if_pos qc5] at hf
      exact XR.forget (L2 := [none]) trivial (kb_m_isLetter_30 L0 hf)
    · rw [if_neg qc5] at hf
      exact XR.forget (L2 := [some (.int a0)]) ⟨rfl, trivial⟩ (kb_m_isLetter_12 L0 hf)
def f_m_lexeme (a0 : Int32) (a1 : Int32) (a2 : Int32) (a3 : Int32) (h : XH) : Option (Unit × XH) := (if 0 ≤ (hi h 1262 12) ∧ (hi h 1262 12) < nI 4001 then (some ((), (hsi (hsi (hsi (hsi (hsi h 1266 (Int32.toNatClampNeg (hi h 1262 12)) a0) 1267 (Int32.toNatClampNeg (hi h 1262 12)) a1) 1268 (Int32.toNatClampNeg (hi h 1262 12)) a2) 1269 (Int32.toNatClampNeg (hi h 1262 12)) a3) 1262 12 ((hi h 1262 12) + 1)))) else none)
set_option maxRecDepth 20000 in
theorem kf_m_lexeme {l : Launch} {G : XG} {d : Nat} {a0 : Int32} {a1 : Int32} {a2 : Int32} {a3 : Int32} {h : XH} {r : Unit × XH} (L0 : LY h) (hf : f_m_lexeme a0 a1 a2 a3 h = some r) : XC l G xEX12_lexeme d [.ref 1262, .int a0, .int a1, .int a2, .int a3] h (fun v h2 => (h2 = r.2 ∧ v = none) ∧ LY r.2) := by
  refine XC.virt xvX12_lexeme (Nat.le_of_ble_eq_true rfl) ?_
  unfold f_m_lexeme at hf
  refine XS.go (s_aloadn rfl rfl rfl) ?_
  refine XS.go (s_getr rfl xf12_19 (LY.lt L0 (by decide)) (LY.k1262 L0) (by decide) rfl (LY.r1262_8 L0)) ?_
  refine XS.go (s_aloadn rfl rfl rfl) ?_
  refine XS.go (s_getie rfl xf12_184 (LY.lt L0 (by decide)) (LY.k1262 L0) (by decide) rfl rfl) ?_
  refine XS.go (s_iloadn rfl rfl rfl) ?_
  by_cases qk1 : 0 ≤ (hi h 1262 12) ∧ (hi h 1262 12) < nI 4001
  rotate_left
  · rw [if_neg qk1] at hf; cases hf
  rw [if_pos qk1] at hf
  refine XS.go (s_iast rfl (LY.lt L0 (by decide)) (LY.k1266 L0) (inLit (LY.n1266 L0) qk1.1 qk1.2 (by decide))) ?_
  refine XS.go (s_aloadn rfl rfl rfl) ?_
  refine XS.go (s_getr rfl xf12_22 (LY.lt (by simp only [LY_si, LY_sj]; exact L0) (by decide)) (LY.k1262 (by simp only [LY_si, LY_sj]; exact L0)) (by decide) rfl (LY.r1262_9 (by simp only [LY_si, LY_sj]; exact L0))) ?_
  refine XS.go (s_aloadn rfl rfl rfl) ?_
  refine XS.go (s_getie rfl xf12_184 (LY.lt (by simp only [LY_si, LY_sj]; exact L0) (by decide)) (LY.k1262 (by simp only [LY_si, LY_sj]; exact L0)) (by decide) rfl (hi_hsi_na (by decide))) ?_
  refine XS.go (s_iloadn rfl rfl rfl) ?_
  refine XS.go (s_iast rfl (LY.lt (by simp only [LY_si, LY_sj]; exact L0) (by decide)) (LY.k1267 (by simp only [LY_si, LY_sj]; exact L0)) (inLit (LY.n1267 (by simp only [LY_si, LY_sj]; exact L0)) qk1.1 qk1.2 (by decide))) ?_
  refine XS.go (s_aloadn rfl rfl rfl) ?_
  refine XS.go (s_getr rfl xf12_25 (LY.lt (by simp only [LY_si, LY_sj]; exact L0) (by decide)) (LY.k1262 (by simp only [LY_si, LY_sj]; exact L0)) (by decide) rfl (LY.r1262_10 (by simp only [LY_si, LY_sj]; exact L0))) ?_
  refine XS.go (s_aloadn rfl rfl rfl) ?_
  refine XS.go (s_getie rfl xf12_184 (LY.lt (by simp only [LY_si, LY_sj]; exact L0) (by decide)) (LY.k1262 (by simp only [LY_si, LY_sj]; exact L0)) (by decide) rfl ((hi_hsi_na (by decide)).trans (hi_hsi_na (by decide)))) ?_
  refine XS.go (s_iloadn rfl rfl rfl) ?_
  refine XS.go (s_iast rfl (LY.lt (by simp only [LY_si, LY_sj]; exact L0) (by decide)) (LY.k1268 (by simp only [LY_si, LY_sj]; exact L0)) (inLit (LY.n1268 (by simp only [LY_si, LY_sj]; exact L0)) qk1.1 qk1.2 (by decide))) ?_
  refine XS.go (s_aloadn rfl rfl rfl) ?_
  refine XS.go (s_getr rfl xf12_28 (LY.lt (by simp only [LY_si, LY_sj]; exact L0) (by decide)) (LY.k1262 (by simp only [LY_si, LY_sj]; exact L0)) (by decide) rfl (LY.r1262_11 (by simp only [LY_si, LY_sj]; exact L0))) ?_
  refine XS.go (s_aloadn rfl rfl rfl) ?_
  refine XS.go (s_getie rfl xf12_184 (LY.lt (by simp only [LY_si, LY_sj]; exact L0) (by decide)) (LY.k1262 (by simp only [LY_si, LY_sj]; exact L0)) (by decide) rfl ((hi_hsi_na (by decide)).trans ((hi_hsi_na (by decide)).trans (hi_hsi_na (by decide))))) ?_
  refine XS.go (s_iload rfl rfl) ?_
  refine XS.go (s_iast rfl (LY.lt (by simp only [LY_si, LY_sj]; exact L0) (by decide)) (LY.k1269 (by simp only [LY_si, LY_sj]; exact L0)) (inLit (LY.n1269 (by simp only [LY_si, LY_sj]; exact L0)) qk1.1 qk1.2 (by decide))) ?_
  refine XS.go (s_aloadn rfl rfl rfl) ?_
  refine XS.go (s_dup rfl rfl) ?_
  refine XS.go (s_getie rfl xf12_184 (LY.lt (by simp only [LY_si, LY_sj]; exact L0) (by decide)) (LY.k1262 (by simp only [LY_si, LY_sj]; exact L0)) (by decide) rfl ((hi_hsi_na (by decide)).trans ((hi_hsi_na (by decide)).trans ((hi_hsi_na (by decide)).trans (hi_hsi_na (by decide)))))) ?_
  refine XS.go (s_iconst (v := 1) rfl rfl) ?_
  refine XS.go (s_iadd rfl) ?_
  refine XS.go (s_puti rfl xf12_184 (LY.lt (by simp only [LY_si, LY_sj]; exact L0) (by decide)) (LY.k1262 (by simp only [LY_si, LY_sj]; exact L0)) (by decide) rfl (Or.inl rfl)) ?_
  cases hf
  exact XR.retv rfl rfl (fun hret => ⟨_, hret, ⟨rfl, rfl⟩, (by simp only [LY_si, LY_sj]; exact L0)⟩)
def b_m_sameName_88 (K41 : Int32 → Int32 → Int32 → Int32 → Int32 → XH → Option (Int32 × XH)) (x1 : Int32) (x2 : Int32) (x3 : Int32) (x5 : Int32) (y0 : Int32) (h : XH) : Option (Int32 × XH) := (K41 x1 x2 x3 y0 (x5 + 1) h)
set_option maxRecDepth 20000 in
theorem kb_m_sameName_88 {l : Launch} {G : XG} {d : Nat} {K41 : Int32 → Int32 → Int32 → Int32 → Int32 → XH → Option (Int32 × XH)} {x1 : Int32} {x2 : Int32} {x3 : Int32} {x5 : Int32} {y0 : Int32} {h : XH} {r : Int32 × XH} (hK41 : ∀ (x1 : Int32) (x2 : Int32) (x3 : Int32) (x4 : Int32) (x5 : Int32) (h : XH), LY h → K41 x1 x2 x3 x4 x5 h = some r → XR l G xEX12_sameName d (41, [some (.ref 1262), some (.int x1), some (.int x2), some (.int x3), some (.int x4), some (.int x5)], [], h) (fun C => ∃ v, xRet xEX12_sameName C v ∧ (C.2.2.2 = r.2 ∧ v = some (.int r.1)) ∧ LY r.2)) (L0 : LY h) (hf : b_m_sameName_88 K41 x1 x2 x3 x5 y0 h = some r) : XR l G xEX12_sameName d (88, [some (.ref 1262), some (.int x1), some (.int x2), some (.int x3), none, some (.int x5)], [(.int y0)], h) (fun C => ∃ v, xRet xEX12_sameName C v ∧ (C.2.2.2 = r.2 ∧ v = some (.int r.1)) ∧ LY r.2) := by
  unfold b_m_sameName_88 at hf
  refine XS.go (s_istore rfl (Nat.le_of_ble_eq_true rfl)) ?_
  refine XS.go (s_inc rfl rfl (Nat.le_of_ble_eq_true rfl)) ?_
  refine XS.go (s_goto (tgt := 41) rfl rfl) ?_
  exact XR.forget (L2 := [some (.ref 1262), some (.int x1), some (.int x2), some (.int x3), some (.int y0), some (.int (x5 + 1))]) ⟨rfl, ⟨rfl, ⟨rfl, ⟨rfl, ⟨rfl, ⟨rfl, trivial⟩⟩⟩⟩⟩⟩ (hK41 x1 x2 x3 y0 (x5 + 1) _ L0 hf)
def s_m_sameName_41 (K41 : Int32 → Int32 → Int32 → Int32 → Int32 → XH → Option (Int32 × XH)) (x1 : Int32) (x2 : Int32) (x3 : Int32) (x4 : Int32) (x5 : Int32) (h : XH) : Option (Int32 × XH) := (if x3 ≤ x5 then (if x4 = 0 ∨ x4 = 1 then (some (x4, h)) else none) else (if x4 = 0 then (if x4 = 0 ∨ x4 = 1 then (some (x4, h)) else none) else (if 0 ≤ x1 ∧ x1 < nI 4001 then (if 0 ≤ ((hi h 1267 (Int32.toNatClampNeg x1)) + x5) ∧ ((hi h 1267 (Int32.toNatClampNeg x1)) + x5) < nI 4000 then (if 0 ≤ x2 ∧ x2 < nI 4001 then (if 0 ≤ ((hi h 1267 (Int32.toNatClampNeg x2)) + x5) ∧ ((hi h 1267 (Int32.toNatClampNeg x2)) + x5) < nI 4000 then (if ¬ (hi h 1264 (Int32.toNatClampNeg ((hi h 1267 (Int32.toNatClampNeg x1)) + x5))) = (hi h 1264 (Int32.toNatClampNeg ((hi h 1267 (Int32.toNatClampNeg x2)) + x5))) then (b_m_sameName_88 K41 x1 x2 x3 x5 0 h) else (b_m_sameName_88 K41 x1 x2 x3 x5 1 h)) else none) else none) else none) else none)))
set_option maxRecDepth 20000 in
theorem ks_m_sameName_41 {l : Launch} {G : XG} {d : Nat} {K41 : Int32 → Int32 → Int32 → Int32 → Int32 → XH → Option (Int32 × XH)} {x1 : Int32} {x2 : Int32} {x3 : Int32} {x4 : Int32} {x5 : Int32} {h : XH} {r : Int32 × XH} (hK41 : ∀ (x1 : Int32) (x2 : Int32) (x3 : Int32) (x4 : Int32) (x5 : Int32) (h : XH), LY h → K41 x1 x2 x3 x4 x5 h = some r → XR l G xEX12_sameName d (41, [some (.ref 1262), some (.int x1), some (.int x2), some (.int x3), some (.int x4), some (.int x5)], [], h) (fun C => ∃ v, xRet xEX12_sameName C v ∧ (C.2.2.2 = r.2 ∧ v = some (.int r.1)) ∧ LY r.2)) (L0 : LY h) (hf : s_m_sameName_41 K41 x1 x2 x3 x4 x5 h = some r) : XR l G xEX12_sameName d (41, [some (.ref 1262), some (.int x1), some (.int x2), some (.int x3), some (.int x4), some (.int x5)], [], h) (fun C => ∃ v, xRet xEX12_sameName C v ∧ (C.2.2.2 = r.2 ∧ v = some (.int r.1)) ∧ LY r.2) := by
  unfold s_m_sameName_41 at hf
  refine XS.go (s_iload rfl rfl) ?_
  refine XS.go (s_iloadn rfl rfl rfl) ?_
  refine r_icmp_ge (tgt := 96) rfl rfl (fun qc1 => ?_) (fun qc1 => ?_)
  · rw [if_pos qc1] at hf
    refine XS.go (s_iload rfl rfl) ?_
    by_cases qk2 : x4 = 0 ∨ x4 = 1
    rotate_left
    · rw [if_neg qk2] at hf; cases hf
    rw [if_pos qk2] at hf
    cases hf
    exact XR.retz rfl rfl qk2 (fun hret => ⟨_, hret, ⟨rfl, rfl⟩, L0⟩)
  · rw [if_neg qc1] at hf
    refine XS.go (s_iload rfl rfl) ?_
    refine r_if_eq (tgt := 96) rfl rfl (fun qc3 => ?_) (fun qc3 => ?_)
    · rw [if_pos qc3] at hf
      refine XS.go (s_iload rfl rfl) ?_
      by_cases qk4 : x4 = 0 ∨ x4 = 1
      rotate_left
      · rw [if_neg qk4] at hf; cases hf
      rw [if_pos qk4] at hf
      cases hf
      exact XR.retz rfl rfl qk4 (fun hret => ⟨_, hret, ⟨rfl, rfl⟩, L0⟩)
    · rw [if_neg qc3] at hf
      refine XS.go (s_aloadn rfl rfl rfl) ?_
      refine XS.go (s_getr rfl xf12_13 (LY.lt L0 (by decide)) (LY.k1262 L0) (by decide) rfl (LY.r1262_3 L0)) ?_
      refine XS.go (s_aloadn rfl rfl rfl) ?_
      refine XS.go (s_getr rfl xf12_22 (LY.lt L0 (by decide)) (LY.k1262 L0) (by decide) rfl (LY.r1262_9 L0)) ?_
      refine XS.go (s_iloadn rfl rfl rfl) ?_
      by_cases qk5 : 0 ≤ x1 ∧ x1 < nI 4001
      rotate_left
      · rw [if_neg qk5] at hf; cases hf
      rw [if_pos qk5] at hf
      refine XS.go (s_ialde rfl (LY.lt L0 (by decide)) (LY.k1267 L0) (inLit (LY.n1267 L0) qk5.1 qk5.2 (by decide)) rfl) ?_
      refine XS.go (s_iload rfl rfl) ?_
      refine XS.go (s_iadd rfl) ?_
      by_cases qk6 : 0 ≤ ((hi h 1267 (Int32.toNatClampNeg x1)) + x5) ∧ ((hi h 1267 (Int32.toNatClampNeg x1)) + x5) < nI 4000
      rotate_left
      · rw [if_neg qk6] at hf; cases hf
      rw [if_pos qk6] at hf
      refine XS.go (s_ialde rfl (LY.lt L0 (by decide)) (LY.k1264 L0) (inLit (LY.n1264 L0) qk6.1 qk6.2 (by decide)) rfl) ?_
      refine XS.go (s_aloadn rfl rfl rfl) ?_
      refine XS.go (s_getr rfl xf12_13 (LY.lt L0 (by decide)) (LY.k1262 L0) (by decide) rfl (LY.r1262_3 L0)) ?_
      refine XS.go (s_aloadn rfl rfl rfl) ?_
      refine XS.go (s_getr rfl xf12_22 (LY.lt L0 (by decide)) (LY.k1262 L0) (by decide) rfl (LY.r1262_9 L0)) ?_
      refine XS.go (s_iloadn rfl rfl rfl) ?_
      by_cases qk7 : 0 ≤ x2 ∧ x2 < nI 4001
      rotate_left
      · rw [if_neg qk7] at hf; cases hf
      rw [if_pos qk7] at hf
      refine XS.go (s_ialde rfl (LY.lt L0 (by decide)) (LY.k1267 L0) (inLit (LY.n1267 L0) qk7.1 qk7.2 (by decide)) rfl) ?_
      refine XS.go (s_iload rfl rfl) ?_
      refine XS.go (s_iadd rfl) ?_
      by_cases qk8 : 0 ≤ ((hi h 1267 (Int32.toNatClampNeg x2)) + x5) ∧ ((hi h 1267 (Int32.toNatClampNeg x2)) + x5) < nI 4000
      rotate_left
      · rw [if_neg qk8] at hf; cases hf
      rw [if_pos qk8] at hf
      refine XS.go (s_ialde rfl (LY.lt L0 (by decide)) (LY.k1264 L0) (inLit (LY.n1264 L0) qk8.1 qk8.2 (by decide)) rfl) ?_
      refine r_icmp_ne (tgt := 87) rfl rfl (fun qc9 => ?_) (fun qc9 => ?_)
      · rw [if_pos qc9] at hf
        refine XS.go (s_iconst (v := 0) rfl rfl) ?_
        exact XR.forget (L2 := [some (.ref 1262), some (.int x1), some (.int x2), some (.int x3), none, some (.int x5)]) ⟨rfl, ⟨rfl, ⟨rfl, ⟨rfl, ⟨rfl, trivial⟩⟩⟩⟩⟩ (kb_m_sameName_88 hK41 L0 hf)
      · rw [if_neg qc9] at hf
        refine XS.go (s_iconst (v := 1) rfl rfl) ?_
        refine XS.go (s_goto (tgt := 88) rfl rfl) ?_
        exact XR.forget (L2 := [some (.ref 1262), some (.int x1), some (.int x2), some (.int x3), none, some (.int x5)]) ⟨rfl, ⟨rfl, ⟨rfl, ⟨rfl, ⟨rfl, trivial⟩⟩⟩⟩⟩ (kb_m_sameName_88 hK41 L0 hf)
def b_m_sameName_41 : Nat → Int32 → Int32 → Int32 → Int32 → Int32 → XH → Option (Int32 × XH)
  | 0, _, _, _, _, _, _ => none
  | n + 1, x1, x2, x3, x4, x5, h => s_m_sameName_41 (b_m_sameName_41 n) x1 x2 x3 x4 x5 h
theorem kb_m_sameName_41 {l : Launch} {G : XG} {d : Nat} {n : Nat} {x1 : Int32} {x2 : Int32} {x3 : Int32} {x4 : Int32} {x5 : Int32} {h : XH} {r : Int32 × XH} (L0 : LY h) (hf : b_m_sameName_41 n x1 x2 x3 x4 x5 h = some r) : XR l G xEX12_sameName d (41, [some (.ref 1262), some (.int x1), some (.int x2), some (.int x3), some (.int x4), some (.int x5)], [], h) (fun C => ∃ v, xRet xEX12_sameName C v ∧ (C.2.2.2 = r.2 ∧ v = some (.int r.1)) ∧ LY r.2) := by
  induction n generalizing x1 x2 x3 x4 x5 h with
  | zero => cases hf
  | succ n ih => exact ks_m_sameName_41 (fun x1 x2 x3 x4 x5 h L0 hf => ih (h := h) (x1 := x1) (x2 := x2) (x3 := x3) (x4 := x4) (x5 := x5) L0 hf) L0 hf
def b_m_sameName_36 (x1 : Int32) (x2 : Int32) (x3 : Int32) (y0 : Int32) (h : XH) : Option (Int32 × XH) := (b_m_sameName_41 100000 x1 x2 x3 y0 0 h)
set_option maxRecDepth 20000 in
theorem kb_m_sameName_36 {l : Launch} {G : XG} {d : Nat} {x1 : Int32} {x2 : Int32} {x3 : Int32} {y0 : Int32} {h : XH} {r : Int32 × XH} (L0 : LY h) (hf : b_m_sameName_36 x1 x2 x3 y0 h = some r) : XR l G xEX12_sameName d (36, [some (.ref 1262), some (.int x1), some (.int x2), some (.int x3), none, none], [(.int y0)], h) (fun C => ∃ v, xRet xEX12_sameName C v ∧ (C.2.2.2 = r.2 ∧ v = some (.int r.1)) ∧ LY r.2) := by
  unfold b_m_sameName_36 at hf
  refine XS.go (s_istore rfl (Nat.le_of_ble_eq_true rfl)) ?_
  refine XS.go (s_iconst (v := 0) rfl rfl) ?_
  refine XS.go (s_istore rfl (Nat.le_of_ble_eq_true rfl)) ?_
  exact XR.forget (L2 := [some (.ref 1262), some (.int x1), some (.int x2), some (.int x3), some (.int y0), some (.int 0)]) ⟨rfl, ⟨rfl, ⟨rfl, ⟨rfl, ⟨rfl, ⟨rfl, trivial⟩⟩⟩⟩⟩⟩ (kb_m_sameName_41 L0 hf)
def f_m_sameName (a0 : Int32) (a1 : Int32) (h : XH) : Option (Int32 × XH) := (if 0 ≤ a0 ∧ a0 < nI 4001 then (if 0 ≤ a1 ∧ a1 < nI 4001 then (if ¬ ((hi h 1268 (Int32.toNatClampNeg a0)) - (hi h 1267 (Int32.toNatClampNeg a0))) = ((hi h 1268 (Int32.toNatClampNeg a1)) - (hi h 1267 (Int32.toNatClampNeg a1))) then (b_m_sameName_36 a0 a1 ((hi h 1268 (Int32.toNatClampNeg a0)) - (hi h 1267 (Int32.toNatClampNeg a0))) 0 h) else (b_m_sameName_36 a0 a1 ((hi h 1268 (Int32.toNatClampNeg a0)) - (hi h 1267 (Int32.toNatClampNeg a0))) 1 h)) else none) else none)
set_option maxRecDepth 20000 in
theorem kf_m_sameName {l : Launch} {G : XG} {d : Nat} {a0 : Int32} {a1 : Int32} {h : XH} {r : Int32 × XH} (L0 : LY h) (hf : f_m_sameName a0 a1 h = some r) : XC l G xEX12_sameName d [.ref 1262, .int a0, .int a1] h (fun v h2 => (h2 = r.2 ∧ v = some (.int r.1)) ∧ LY r.2) := by
  refine XC.virt xvX12_sameName (Nat.le_of_ble_eq_true rfl) ?_
  unfold f_m_sameName at hf
  refine XS.go (s_aloadn rfl rfl rfl) ?_
  refine XS.go (s_getr rfl xf12_25 (LY.lt L0 (by decide)) (LY.k1262 L0) (by decide) rfl (LY.r1262_10 L0)) ?_
  refine XS.go (s_iloadn rfl rfl rfl) ?_
  by_cases qk10 : 0 ≤ a0 ∧ a0 < nI 4001
  rotate_left
  · rw [if_neg qk10] at hf; cases hf
  rw [if_pos qk10] at hf
  refine XS.go (s_ialde rfl (LY.lt L0 (by decide)) (LY.k1268 L0) (inLit (LY.n1268 L0) qk10.1 qk10.2 (by decide)) rfl) ?_
  refine XS.go (s_aloadn rfl rfl rfl) ?_
  refine XS.go (s_getr rfl xf12_22 (LY.lt L0 (by decide)) (LY.k1262 L0) (by decide) rfl (LY.r1262_9 L0)) ?_
  refine XS.go (s_iloadn rfl rfl rfl) ?_
  refine XS.go (s_ialde rfl (LY.lt L0 (by decide)) (LY.k1267 L0) (inLit (LY.n1267 L0) qk10.1 qk10.2 (by decide)) rfl) ?_
  refine XS.go (s_isub rfl) ?_
  refine XS.go (s_istoren rfl rfl (Nat.le_of_ble_eq_true rfl)) ?_
  refine XS.go (s_iloadn rfl rfl rfl) ?_
  refine XS.go (s_aloadn rfl rfl rfl) ?_
  refine XS.go (s_getr rfl xf12_25 (LY.lt L0 (by decide)) (LY.k1262 L0) (by decide) rfl (LY.r1262_10 L0)) ?_
  refine XS.go (s_iloadn rfl rfl rfl) ?_
  by_cases qk11 : 0 ≤ a1 ∧ a1 < nI 4001
  rotate_left
  · rw [if_neg qk11] at hf; cases hf
  rw [if_pos qk11] at hf
  refine XS.go (s_ialde rfl (LY.lt L0 (by decide)) (LY.k1268 L0) (inLit (LY.n1268 L0) qk11.1 qk11.2 (by decide)) rfl) ?_
  refine XS.go (s_aloadn rfl rfl rfl) ?_
  refine XS.go (s_getr rfl xf12_22 (LY.lt L0 (by decide)) (LY.k1262 L0) (by decide) rfl (LY.r1262_9 L0)) ?_
  refine XS.go (s_iloadn rfl rfl rfl) ?_
  refine XS.go (s_ialde rfl (LY.lt L0 (by decide)) (LY.k1267 L0) (inLit (LY.n1267 L0) qk11.1 qk11.2 (by decide)) rfl) ?_
  refine XS.go (s_isub rfl) ?_
  refine r_icmp_ne (tgt := 35) rfl rfl (fun qc12 => ?_) (fun qc12 => ?_)
  · rw [if_pos qc12] at hf
    refine XS.go (s_iconst (v := 0) rfl rfl) ?_
    exact XR.forget (L2 := [some (.ref 1262), some (.int a0), some (.int a1), some (.int ((hi h 1268 (Int32.toNatClampNeg a0)) - (hi h 1267 (Int32.toNatClampNeg a0)))), none, none]) ⟨rfl, ⟨rfl, ⟨rfl, ⟨rfl, trivial⟩⟩⟩⟩ (kb_m_sameName_36 L0 hf)
  · rw [if_neg qc12] at hf
    refine XS.go (s_iconst (v := 1) rfl rfl) ?_
    refine XS.go (s_goto (tgt := 36) rfl rfl) ?_
    exact XR.forget (L2 := [some (.ref 1262), some (.int a0), some (.int a1), some (.int ((hi h 1268 (Int32.toNatClampNeg a0)) - (hi h 1267 (Int32.toNatClampNeg a0)))), none, none]) ⟨rfl, ⟨rfl, ⟨rfl, ⟨rfl, trivial⟩⟩⟩⟩ (kb_m_sameName_36 L0 hf)
def f_m_flaw (a0 : Int32) (h : XH) : Option (Unit × XH) := (if ¬ (hi h 1262 14) = 0 then (some ((), h)) else (if 0 ≤ (hi h 1262 13) ∧ (hi h 1262 13) < nI 4001 then (some ((), (hsi (hsi h 1262 14 a0) 1262 15 (hi h 1267 (Int32.toNatClampNeg (hi h 1262 13)))))) else none))
set_option maxRecDepth 20000 in
theorem kf_m_flaw {l : Launch} {G : XG} {d : Nat} {a0 : Int32} {h : XH} {r : Unit × XH} (L0 : LY h) (hf : f_m_flaw a0 h = some r) : XC l G xEX12_flaw d [.ref 1262, .int a0] h (fun v h2 => (h2 = r.2 ∧ v = none) ∧ LY r.2) := by
  refine XC.virt xvX12_flaw (Nat.le_of_ble_eq_true rfl) ?_
  unfold f_m_flaw at hf
  refine XS.go (s_aloadn rfl rfl rfl) ?_
  refine XS.go (s_getie rfl xf12_221 (LY.lt L0 (by decide)) (LY.k1262 L0) (by decide) rfl rfl) ?_
  refine r_if_ne (tgt := 25) rfl rfl (fun qc1 => ?_) (fun qc1 => ?_)
  · rw [if_pos qc1] at hf
    cases hf
    exact XR.retv rfl rfl (fun hret => ⟨_, hret, ⟨rfl, rfl⟩, L0⟩)
  · rw [if_neg qc1] at hf
    refine XS.go (s_aloadn rfl rfl rfl) ?_
    refine XS.go (s_iloadn rfl rfl rfl) ?_
    refine XS.go (s_puti rfl xf12_221 (LY.lt L0 (by decide)) (LY.k1262 L0) (by decide) rfl (Or.inl rfl)) ?_
    refine XS.go (s_aloadn rfl rfl rfl) ?_
    refine XS.go (s_aloadn rfl rfl rfl) ?_
    refine XS.go (s_getr rfl xf12_22 (LY.lt (by simp only [LY_si, LY_sj]; exact L0) (by decide)) (LY.k1262 (by simp only [LY_si, LY_sj]; exact L0)) (by decide) rfl (LY.r1262_9 (by simp only [LY_si, LY_sj]; exact L0))) ?_
    refine XS.go (s_aloadn rfl rfl rfl) ?_
    refine XS.go (s_getie rfl xf12_224 (LY.lt (by simp only [LY_si, LY_sj]; exact L0) (by decide)) (LY.k1262 (by simp only [LY_si, LY_sj]; exact L0)) (by decide) rfl (hi_hsi_nk (by decide))) ?_
    by_cases qk2 : 0 ≤ (hi h 1262 13) ∧ (hi h 1262 13) < nI 4001
    rotate_left
    · rw [if_neg qk2] at hf; cases hf
    rw [if_pos qk2] at hf
    refine XS.go (s_ialde rfl (LY.lt (by simp only [LY_si, LY_sj]; exact L0) (by decide)) (LY.k1267 (by simp only [LY_si, LY_sj]; exact L0)) (inLit (LY.n1267 (by simp only [LY_si, LY_sj]; exact L0)) qk2.1 qk2.2 (by decide)) (hi_hsi_na (by decide))) ?_
    refine XS.go (s_puti rfl xf12_227 (LY.lt (by simp only [LY_si, LY_sj]; exact L0) (by decide)) (LY.k1262 (by simp only [LY_si, LY_sj]; exact L0)) (by decide) rfl (Or.inl rfl)) ?_
    cases hf
    exact XR.retv rfl rfl (fun hret => ⟨_, hret, ⟨rfl, rfl⟩, (by simp only [LY_si, LY_sj]; exact L0)⟩)
def b_m_misfit_19 (y1 : Int32) (h : XH) : Option (Unit × XH) := (match f_m_flaw y1 h with | none => none | some r1 => (some ((), r1.2)))
set_option maxRecDepth 20000 in
theorem kb_m_misfit_19 {l : Launch} {G : XG} {d : Nat} {y1 : Int32} {h : XH} {r : Unit × XH} (L0 : LY h) (hf : b_m_misfit_19 y1 h = some r) : XR l G xEX12_misfit (d + 1) (19, [none], [(.int y1), (.ref 1262)], h) (fun C => ∃ v, xRet xEX12_misfit C v ∧ (C.2.2.2 = r.2 ∧ v = none) ∧ LY r.2) := by
  unfold b_m_misfit_19 at hf
  rcases e2 : f_m_flaw y1 h with _ | r1
  · rw [e2] at hf; cases hf
  rw [e2] at hf; dsimp only at hf
  refine r_callv rfl xvX12_flaw xm12_230 (kf_m_flaw (d := d) L0 e2) (LY.lt L0 (by decide)) (LY.k1262 L0) (by decide) rfl rfl (by omega) (by decide) (Nat.le_of_ble_eq_true rfl) ?_
  rintro _ _ ⟨⟨rfl, rfl⟩, L3⟩
  cases hf
  exact XR.retv rfl rfl (fun hret => ⟨_, hret, ⟨rfl, rfl⟩, L3⟩)
def f_m_misfit (h : XH) : Option (Unit × XH) := (if 0 ≤ (hi h 1262 13) ∧ (hi h 1262 13) < nI 4001 then (if ¬ (hi h 1266 (Int32.toNatClampNeg (hi h 1262 13))) = 1 then (b_m_misfit_19 2 h) else (b_m_misfit_19 1 h)) else none)
set_option maxRecDepth 20000 in
theorem kf_m_misfit {l : Launch} {G : XG} {d : Nat} {h : XH} {r : Unit × XH} (L0 : LY h) (hf : f_m_misfit h = some r) : XC l G xEX12_misfit (d + 1) [.ref 1262] h (fun v h2 => (h2 = r.2 ∧ v = none) ∧ LY r.2) := by
  refine XC.virt xvX12_misfit (Nat.le_of_ble_eq_true rfl) ?_
  unfold f_m_misfit at hf
  refine XS.go (s_aloadn rfl rfl rfl) ?_
  refine XS.go (s_aloadn rfl rfl rfl) ?_
  refine XS.go (s_getr rfl xf12_19 (LY.lt L0 (by decide)) (LY.k1262 L0) (by decide) rfl (LY.r1262_8 L0)) ?_
  refine XS.go (s_aloadn rfl rfl rfl) ?_
  refine XS.go (s_getie rfl xf12_224 (LY.lt L0 (by decide)) (LY.k1262 L0) (by decide) rfl rfl) ?_
  by_cases qk4 : 0 ≤ (hi h 1262 13) ∧ (hi h 1262 13) < nI 4001
  rotate_left
  · rw [if_neg qk4] at hf; cases hf
  rw [if_pos qk4] at hf
  refine XS.go (s_ialde rfl (LY.lt L0 (by decide)) (LY.k1266 L0) (inLit (LY.n1266 L0) qk4.1 qk4.2 (by decide)) rfl) ?_
  refine XS.go (s_iconst (v := 1) rfl rfl) ?_
  refine r_icmp_ne (tgt := 18) rfl rfl (fun qc5 => ?_) (fun qc5 => ?_)
  · rw [if_pos qc5] at hf
    refine XS.go (s_iconst (v := 2) rfl rfl) ?_
    exact XR.forget (L2 := [none]) trivial (kb_m_misfit_19 L0 hf)
  · rw [if_neg qc5] at hf
    refine XS.go (s_iconst (v := 1) rfl rfl) ?_
    refine XS.go (s_goto (tgt := 19) rfl rfl) ?_
    exact XR.forget (L2 := [none]) trivial (kb_m_misfit_19 L0 hf)
def f_m_isSign (a0 : Int32) (h : XH) : Option (Int32 × XH) := (if ¬ (hi h 1262 14) = 0 then (some (0, h)) else (if 0 ≤ (hi h 1262 13) ∧ (hi h 1262 13) < nI 4001 then (if ¬ (hi h 1266 (Int32.toNatClampNeg (hi h 1262 13))) = 4 then (some (0, h)) else (if ¬ (hi h 1269 (Int32.toNatClampNeg (hi h 1262 13))) = a0 then (some (0, h)) else (some (1, h)))) else none))
set_option maxRecDepth 20000 in
theorem kf_m_isSign {l : Launch} {G : XG} {d : Nat} {a0 : Int32} {h : XH} {r : Int32 × XH} (L0 : LY h) (hf : f_m_isSign a0 h = some r) : XC l G xEX12_isSign d [.ref 1262, .int a0] h (fun v h2 => (h2 = r.2 ∧ v = some (.int r.1)) ∧ LY r.2) := by
  refine XC.virt xvX12_isSign (Nat.le_of_ble_eq_true rfl) ?_
  unfold f_m_isSign at hf
  refine XS.go (s_aloadn rfl rfl rfl) ?_
  refine XS.go (s_getie rfl xf12_221 (LY.lt L0 (by decide)) (LY.k1262 L0) (by decide) rfl rfl) ?_
  refine r_if_ne (tgt := 37) rfl rfl (fun qc1 => ?_) (fun qc1 => ?_)
  · rw [if_pos qc1] at hf
    refine XS.go (s_iconst (v := 0) rfl rfl) ?_
    cases hf
    exact XR.retz rfl rfl (by decide) (fun hret => ⟨_, hret, ⟨rfl, rfl⟩, L0⟩)
  · rw [if_neg qc1] at hf
    refine XS.go (s_aloadn rfl rfl rfl) ?_
    refine XS.go (s_getr rfl xf12_19 (LY.lt L0 (by decide)) (LY.k1262 L0) (by decide) rfl (LY.r1262_8 L0)) ?_
    refine XS.go (s_aloadn rfl rfl rfl) ?_
    refine XS.go (s_getie rfl xf12_224 (LY.lt L0 (by decide)) (LY.k1262 L0) (by decide) rfl rfl) ?_
    by_cases qk2 : 0 ≤ (hi h 1262 13) ∧ (hi h 1262 13) < nI 4001
    rotate_left
    · rw [if_neg qk2] at hf; cases hf
    rw [if_pos qk2] at hf
    refine XS.go (s_ialde rfl (LY.lt L0 (by decide)) (LY.k1266 L0) (inLit (LY.n1266 L0) qk2.1 qk2.2 (by decide)) rfl) ?_
    refine XS.go (s_iconst (v := 4) rfl rfl) ?_
    refine r_icmp_ne (tgt := 37) rfl rfl (fun qc3 => ?_) (fun qc3 => ?_)
    · rw [if_pos qc3] at hf
      refine XS.go (s_iconst (v := 0) rfl rfl) ?_
      cases hf
      exact XR.retz rfl rfl (by decide) (fun hret => ⟨_, hret, ⟨rfl, rfl⟩, L0⟩)
    · rw [if_neg qc3] at hf
      refine XS.go (s_aloadn rfl rfl rfl) ?_
      refine XS.go (s_getr rfl xf12_28 (LY.lt L0 (by decide)) (LY.k1262 L0) (by decide) rfl (LY.r1262_11 L0)) ?_
      refine XS.go (s_aloadn rfl rfl rfl) ?_
      refine XS.go (s_getie rfl xf12_224 (LY.lt L0 (by decide)) (LY.k1262 L0) (by decide) rfl rfl) ?_
      refine XS.go (s_ialde rfl (LY.lt L0 (by decide)) (LY.k1269 L0) (inLit (LY.n1269 L0) qk2.1 qk2.2 (by decide)) rfl) ?_
      refine XS.go (s_iloadn rfl rfl rfl) ?_
      refine r_icmp_ne (tgt := 37) rfl rfl (fun qc4 => ?_) (fun qc4 => ?_)
      · rw [if_pos qc4] at hf
        refine XS.go (s_iconst (v := 0) rfl rfl) ?_
        cases hf
        exact XR.retz rfl rfl (by decide) (fun hret => ⟨_, hret, ⟨rfl, rfl⟩, L0⟩)
      · rw [if_neg qc4] at hf
        refine XS.go (s_iconst (v := 1) rfl rfl) ?_
        refine XS.go (s_goto (tgt := 38) rfl rfl) ?_
        cases hf
        exact XR.retz rfl rfl (by decide) (fun hret => ⟨_, hret, ⟨rfl, rfl⟩, L0⟩)
def f_m_isWord (a0 : Int32) (h : XH) : Option (Int32 × XH) := (if ¬ (hi h 1262 14) = 0 then (some (0, h)) else (if 0 ≤ (hi h 1262 13) ∧ (hi h 1262 13) < nI 4001 then (if ¬ (hi h 1266 (Int32.toNatClampNeg (hi h 1262 13))) = 2 then (some (0, h)) else (if ¬ (hi h 1269 (Int32.toNatClampNeg (hi h 1262 13))) = a0 then (some (0, h)) else (some (1, h)))) else none))
set_option maxRecDepth 20000 in
theorem kf_m_isWord {l : Launch} {G : XG} {d : Nat} {a0 : Int32} {h : XH} {r : Int32 × XH} (L0 : LY h) (hf : f_m_isWord a0 h = some r) : XC l G xEX12_isWord d [.ref 1262, .int a0] h (fun v h2 => (h2 = r.2 ∧ v = some (.int r.1)) ∧ LY r.2) := by
  refine XC.virt xvX12_isWord (Nat.le_of_ble_eq_true rfl) ?_
  unfold f_m_isWord at hf
  refine XS.go (s_aloadn rfl rfl rfl) ?_
  refine XS.go (s_getie rfl xf12_221 (LY.lt L0 (by decide)) (LY.k1262 L0) (by decide) rfl rfl) ?_
  refine r_if_ne (tgt := 37) rfl rfl (fun qc1 => ?_) (fun qc1 => ?_)
  · rw [if_pos qc1] at hf
    refine XS.go (s_iconst (v := 0) rfl rfl) ?_
    cases hf
    exact XR.retz rfl rfl (by decide) (fun hret => ⟨_, hret, ⟨rfl, rfl⟩, L0⟩)
  · rw [if_neg qc1] at hf
    refine XS.go (s_aloadn rfl rfl rfl) ?_
    refine XS.go (s_getr rfl xf12_19 (LY.lt L0 (by decide)) (LY.k1262 L0) (by decide) rfl (LY.r1262_8 L0)) ?_
    refine XS.go (s_aloadn rfl rfl rfl) ?_
    refine XS.go (s_getie rfl xf12_224 (LY.lt L0 (by decide)) (LY.k1262 L0) (by decide) rfl rfl) ?_
    by_cases qk2 : 0 ≤ (hi h 1262 13) ∧ (hi h 1262 13) < nI 4001
    rotate_left
    · rw [if_neg qk2] at hf; cases hf
    rw [if_pos qk2] at hf
    refine XS.go (s_ialde rfl (LY.lt L0 (by decide)) (LY.k1266 L0) (inLit (LY.n1266 L0) qk2.1 qk2.2 (by decide)) rfl) ?_
    refine XS.go (s_iconst (v := 2) rfl rfl) ?_
    refine r_icmp_ne (tgt := 37) rfl rfl (fun qc3 => ?_) (fun qc3 => ?_)
    · rw [if_pos qc3] at hf
      refine XS.go (s_iconst (v := 0) rfl rfl) ?_
      cases hf
      exact XR.retz rfl rfl (by decide) (fun hret => ⟨_, hret, ⟨rfl, rfl⟩, L0⟩)
    · rw [if_neg qc3] at hf
      refine XS.go (s_aloadn rfl rfl rfl) ?_
      refine XS.go (s_getr rfl xf12_28 (LY.lt L0 (by decide)) (LY.k1262 L0) (by decide) rfl (LY.r1262_11 L0)) ?_
      refine XS.go (s_aloadn rfl rfl rfl) ?_
      refine XS.go (s_getie rfl xf12_224 (LY.lt L0 (by decide)) (LY.k1262 L0) (by decide) rfl rfl) ?_
      refine XS.go (s_ialde rfl (LY.lt L0 (by decide)) (LY.k1269 L0) (inLit (LY.n1269 L0) qk2.1 qk2.2 (by decide)) rfl) ?_
      refine XS.go (s_iloadn rfl rfl rfl) ?_
      refine r_icmp_ne (tgt := 37) rfl rfl (fun qc4 => ?_) (fun qc4 => ?_)
      · rw [if_pos qc4] at hf
        refine XS.go (s_iconst (v := 0) rfl rfl) ?_
        cases hf
        exact XR.retz rfl rfl (by decide) (fun hret => ⟨_, hret, ⟨rfl, rfl⟩, L0⟩)
      · rw [if_neg qc4] at hf
        refine XS.go (s_iconst (v := 1) rfl rfl) ?_
        refine XS.go (s_goto (tgt := 38) rfl rfl) ?_
        cases hf
        exact XR.retz rfl rfl (by decide) (fun hret => ⟨_, hret, ⟨rfl, rfl⟩, L0⟩)
def f_m_isScalar (h : XH) : Option (Int32 × XH) := (if ¬ (hi h 1262 14) = 0 then (some (0, h)) else (if 0 ≤ (hi h 1262 13) ∧ (hi h 1262 13) < nI 4001 then (if ¬ (hi h 1266 (Int32.toNatClampNeg (hi h 1262 13))) = 2 then (some (0, h)) else (if (hi h 1269 (Int32.toNatClampNeg (hi h 1262 13))) < 0 then (some (0, h)) else (if 11 ≤ (hi h 1269 (Int32.toNatClampNeg (hi h 1262 13))) then (some (0, h)) else (some (1, h))))) else none))
set_option maxRecDepth 20000 in
theorem kf_m_isScalar {l : Launch} {G : XG} {d : Nat} {h : XH} {r : Int32 × XH} (L0 : LY h) (hf : f_m_isScalar h = some r) : XC l G xEX12_isScalar d [.ref 1262] h (fun v h2 => (h2 = r.2 ∧ v = some (.int r.1)) ∧ LY r.2) := by
  refine XC.virt xvX12_isScalar (Nat.le_of_ble_eq_true rfl) ?_
  unfold f_m_isScalar at hf
  refine XS.go (s_aloadn rfl rfl rfl) ?_
  refine XS.go (s_getie rfl xf12_221 (LY.lt L0 (by decide)) (LY.k1262 L0) (by decide) rfl rfl) ?_
  refine r_if_ne (tgt := 50) rfl rfl (fun qc1 => ?_) (fun qc1 => ?_)
  · rw [if_pos qc1] at hf
    refine XS.go (s_iconst (v := 0) rfl rfl) ?_
    cases hf
    exact XR.retz rfl rfl (by decide) (fun hret => ⟨_, hret, ⟨rfl, rfl⟩, L0⟩)
  · rw [if_neg qc1] at hf
    refine XS.go (s_aloadn rfl rfl rfl) ?_
    refine XS.go (s_getr rfl xf12_19 (LY.lt L0 (by decide)) (LY.k1262 L0) (by decide) rfl (LY.r1262_8 L0)) ?_
    refine XS.go (s_aloadn rfl rfl rfl) ?_
    refine XS.go (s_getie rfl xf12_224 (LY.lt L0 (by decide)) (LY.k1262 L0) (by decide) rfl rfl) ?_
    by_cases qk2 : 0 ≤ (hi h 1262 13) ∧ (hi h 1262 13) < nI 4001
    rotate_left
    · rw [if_neg qk2] at hf; cases hf
    rw [if_pos qk2] at hf
    refine XS.go (s_ialde rfl (LY.lt L0 (by decide)) (LY.k1266 L0) (inLit (LY.n1266 L0) qk2.1 qk2.2 (by decide)) rfl) ?_
    refine XS.go (s_iconst (v := 2) rfl rfl) ?_
    refine r_icmp_ne (tgt := 50) rfl rfl (fun qc3 => ?_) (fun qc3 => ?_)
    · rw [if_pos qc3] at hf
      refine XS.go (s_iconst (v := 0) rfl rfl) ?_
      cases hf
      exact XR.retz rfl rfl (by decide) (fun hret => ⟨_, hret, ⟨rfl, rfl⟩, L0⟩)
    · rw [if_neg qc3] at hf
      refine XS.go (s_aloadn rfl rfl rfl) ?_
      refine XS.go (s_getr rfl xf12_28 (LY.lt L0 (by decide)) (LY.k1262 L0) (by decide) rfl (LY.r1262_11 L0)) ?_
      refine XS.go (s_aloadn rfl rfl rfl) ?_
      refine XS.go (s_getie rfl xf12_224 (LY.lt L0 (by decide)) (LY.k1262 L0) (by decide) rfl rfl) ?_
      refine XS.go (s_ialde rfl (LY.lt L0 (by decide)) (LY.k1269 L0) (inLit (LY.n1269 L0) qk2.1 qk2.2 (by decide)) rfl) ?_
      refine r_if_lt (tgt := 50) rfl rfl (fun qc4 => ?_) (fun qc4 => ?_)
      · rw [if_pos qc4] at hf
        refine XS.go (s_iconst (v := 0) rfl rfl) ?_
        cases hf
        exact XR.retz rfl rfl (by decide) (fun hret => ⟨_, hret, ⟨rfl, rfl⟩, L0⟩)
      · rw [if_neg qc4] at hf
        refine XS.go (s_aloadn rfl rfl rfl) ?_
        refine XS.go (s_getr rfl xf12_28 (LY.lt L0 (by decide)) (LY.k1262 L0) (by decide) rfl (LY.r1262_11 L0)) ?_
        refine XS.go (s_aloadn rfl rfl rfl) ?_
        refine XS.go (s_getie rfl xf12_224 (LY.lt L0 (by decide)) (LY.k1262 L0) (by decide) rfl rfl) ?_
        refine XS.go (s_ialde rfl (LY.lt L0 (by decide)) (LY.k1269 L0) (inLit (LY.n1269 L0) qk2.1 qk2.2 (by decide)) rfl) ?_
        refine XS.go (s_bipush (v := 11) rfl rfl) ?_
        refine r_icmp_ge (tgt := 50) rfl rfl (fun qc5 => ?_) (fun qc5 => ?_)
        · rw [if_pos qc5] at hf
          refine XS.go (s_iconst (v := 0) rfl rfl) ?_
          cases hf
          exact XR.retz rfl rfl (by decide) (fun hret => ⟨_, hret, ⟨rfl, rfl⟩, L0⟩)
        · rw [if_neg qc5] at hf
          refine XS.go (s_iconst (v := 1) rfl rfl) ?_
          refine XS.go (s_goto (tgt := 51) rfl rfl) ?_
          cases hf
          exact XR.retz rfl rfl (by decide) (fun hret => ⟨_, hret, ⟨rfl, rfl⟩, L0⟩)
def f_m_isName (h : XH) : Option (Int32 × XH) := (if ¬ (hi h 1262 14) = 0 then (some (0, h)) else (if 0 ≤ (hi h 1262 13) ∧ (hi h 1262 13) < nI 4001 then (if ¬ (hi h 1266 (Int32.toNatClampNeg (hi h 1262 13))) = 2 then (some (0, h)) else (if ¬ (hi h 1269 (Int32.toNatClampNeg (hi h 1262 13))) = (-1) then (some (0, h)) else (some (1, h)))) else none))
set_option maxRecDepth 20000 in
theorem kf_m_isName {l : Launch} {G : XG} {d : Nat} {h : XH} {r : Int32 × XH} (L0 : LY h) (hf : f_m_isName h = some r) : XC l G xEX12_isName d [.ref 1262] h (fun v h2 => (h2 = r.2 ∧ v = some (.int r.1)) ∧ LY r.2) := by
  refine XC.virt xvX12_isName (Nat.le_of_ble_eq_true rfl) ?_
  unfold f_m_isName at hf
  refine XS.go (s_aloadn rfl rfl rfl) ?_
  refine XS.go (s_getie rfl xf12_221 (LY.lt L0 (by decide)) (LY.k1262 L0) (by decide) rfl rfl) ?_
  refine r_if_ne (tgt := 37) rfl rfl (fun qc1 => ?_) (fun qc1 => ?_)
  · rw [if_pos qc1] at hf
    refine XS.go (s_iconst (v := 0) rfl rfl) ?_
    cases hf
    exact XR.retz rfl rfl (by decide) (fun hret => ⟨_, hret, ⟨rfl, rfl⟩, L0⟩)
  · rw [if_neg qc1] at hf
    refine XS.go (s_aloadn rfl rfl rfl) ?_
    refine XS.go (s_getr rfl xf12_19 (LY.lt L0 (by decide)) (LY.k1262 L0) (by decide) rfl (LY.r1262_8 L0)) ?_
    refine XS.go (s_aloadn rfl rfl rfl) ?_
    refine XS.go (s_getie rfl xf12_224 (LY.lt L0 (by decide)) (LY.k1262 L0) (by decide) rfl rfl) ?_
    by_cases qk2 : 0 ≤ (hi h 1262 13) ∧ (hi h 1262 13) < nI 4001
    rotate_left
    · rw [if_neg qk2] at hf; cases hf
    rw [if_pos qk2] at hf
    refine XS.go (s_ialde rfl (LY.lt L0 (by decide)) (LY.k1266 L0) (inLit (LY.n1266 L0) qk2.1 qk2.2 (by decide)) rfl) ?_
    refine XS.go (s_iconst (v := 2) rfl rfl) ?_
    refine r_icmp_ne (tgt := 37) rfl rfl (fun qc3 => ?_) (fun qc3 => ?_)
    · rw [if_pos qc3] at hf
      refine XS.go (s_iconst (v := 0) rfl rfl) ?_
      cases hf
      exact XR.retz rfl rfl (by decide) (fun hret => ⟨_, hret, ⟨rfl, rfl⟩, L0⟩)
    · rw [if_neg qc3] at hf
      refine XS.go (s_aloadn rfl rfl rfl) ?_
      refine XS.go (s_getr rfl xf12_28 (LY.lt L0 (by decide)) (LY.k1262 L0) (by decide) rfl (LY.r1262_11 L0)) ?_
      refine XS.go (s_aloadn rfl rfl rfl) ?_
      refine XS.go (s_getie rfl xf12_224 (LY.lt L0 (by decide)) (LY.k1262 L0) (by decide) rfl rfl) ?_
      refine XS.go (s_ialde rfl (LY.lt L0 (by decide)) (LY.k1269 L0) (inLit (LY.n1269 L0) qk2.1 qk2.2 (by decide)) rfl) ?_
      refine XS.go (s_iconst (v := (-1)) rfl rfl) ?_
      refine r_icmp_ne (tgt := 37) rfl rfl (fun qc4 => ?_) (fun qc4 => ?_)
      · rw [if_pos qc4] at hf
        refine XS.go (s_iconst (v := 0) rfl rfl) ?_
        cases hf
        exact XR.retz rfl rfl (by decide) (fun hret => ⟨_, hret, ⟨rfl, rfl⟩, L0⟩)
      · rw [if_neg qc4] at hf
        refine XS.go (s_iconst (v := 1) rfl rfl) ?_
        refine XS.go (s_goto (tgt := 38) rfl rfl) ?_
        cases hf
        exact XR.retz rfl rfl (by decide) (fun hret => ⟨_, hret, ⟨rfl, rfl⟩, L0⟩)
def f_m_take (h : XH) : Option (Unit × XH) := (if ¬ (hi h 1262 14) = 0 then (some ((), h)) else (some ((), (hsi h 1262 13 ((hi h 1262 13) + 1)))))
set_option maxRecDepth 20000 in
theorem kf_m_take {l : Launch} {G : XG} {d : Nat} {h : XH} {r : Unit × XH} (L0 : LY h) (hf : f_m_take h = some r) : XC l G xEX12_take d [.ref 1262] h (fun v h2 => (h2 = r.2 ∧ v = none) ∧ LY r.2) := by
  refine XC.virt xvX12_take (Nat.le_of_ble_eq_true rfl) ?_
  unfold f_m_take at hf
  refine XS.go (s_aloadn rfl rfl rfl) ?_
  refine XS.go (s_getie rfl xf12_221 (LY.lt L0 (by decide)) (LY.k1262 L0) (by decide) rfl rfl) ?_
  refine r_if_ne (tgt := 17) rfl rfl (fun qc1 => ?_) (fun qc1 => ?_)
  · rw [if_pos qc1] at hf
    cases hf
    exact XR.retv rfl rfl (fun hret => ⟨_, hret, ⟨rfl, rfl⟩, L0⟩)
  · rw [if_neg qc1] at hf
    refine XS.go (s_aloadn rfl rfl rfl) ?_
    refine XS.go (s_dup rfl rfl) ?_
    refine XS.go (s_getie rfl xf12_224 (LY.lt L0 (by decide)) (LY.k1262 L0) (by decide) rfl rfl) ?_
    refine XS.go (s_iconst (v := 1) rfl rfl) ?_
    refine XS.go (s_iadd rfl) ?_
    refine XS.go (s_puti rfl xf12_224 (LY.lt L0 (by decide)) (LY.k1262 L0) (by decide) rfl (Or.inl rfl)) ?_
    cases hf
    exact XR.retv rfl rfl (fun hret => ⟨_, hret, ⟨rfl, rfl⟩, (by simp only [LY_si, LY_sj]; exact L0)⟩)
def b_m_sign_19 (h : XH) : Option (Unit × XH) := (match f_m_take h with | none => none | some r1 => (some ((), r1.2)))
set_option maxRecDepth 20000 in
theorem kb_m_sign_19 {l : Launch} {G : XG} {d : Nat} {h : XH} {r : Unit × XH} (L0 : LY h) (hf : b_m_sign_19 h = some r) : XR l G xEX12_sign (d + 2) (19, [some (.ref 1262), none], [], h) (fun C => ∃ v, xRet xEX12_sign C v ∧ (C.2.2.2 = r.2 ∧ v = none) ∧ LY r.2) := by
  unfold b_m_sign_19 at hf
  refine XS.go (s_aloadn rfl rfl rfl) ?_
  rcases e2 : f_m_take h with _ | r1
  · rw [e2] at hf; cases hf
  rw [e2] at hf; dsimp only at hf
  refine r_callv rfl xvX12_take xm12_240 (kf_m_take (d := d) L0 e2) (LY.lt L0 (by decide)) (LY.k1262 L0) (by decide) rfl rfl (by omega) (by decide) (Nat.le_of_ble_eq_true rfl) ?_
  rintro _ _ ⟨⟨rfl, rfl⟩, L3⟩
  cases hf
  exact XR.retv rfl rfl (fun hret => ⟨_, hret, ⟨rfl, rfl⟩, L3⟩)
def f_m_sign (a0 : Int32) (h : XH) : Option (Unit × XH) := (if ¬ (hi h 1262 14) = 0 then (b_m_sign_19 h) else (match f_m_isSign a0 h with | none => none | some r5 => (if ¬ r5.1 = 0 then (b_m_sign_19 r5.2) else (match f_m_misfit r5.2 with | none => none | some r9 => (b_m_sign_19 r9.2)))))
set_option maxRecDepth 20000 in
theorem kf_m_sign {l : Launch} {G : XG} {d : Nat} {a0 : Int32} {h : XH} {r : Unit × XH} (L0 : LY h) (hf : f_m_sign a0 h = some r) : XC l G xEX12_sign (d + 2) [.ref 1262, .int a0] h (fun v h2 => (h2 = r.2 ∧ v = none) ∧ LY r.2) := by
  refine XC.virt xvX12_sign (Nat.le_of_ble_eq_true rfl) ?_
  unfold f_m_sign at hf
  refine XS.go (s_aloadn rfl rfl rfl) ?_
  refine XS.go (s_getie rfl xf12_221 (LY.lt L0 (by decide)) (LY.k1262 L0) (by decide) rfl rfl) ?_
  refine r_if_ne (tgt := 19) rfl rfl (fun qc4 => ?_) (fun qc4 => ?_)
  · rw [if_pos qc4] at hf
    exact XR.forget (L2 := [some (.ref 1262), none]) ⟨rfl, trivial⟩ (kb_m_sign_19 L0 hf)
  · rw [if_neg qc4] at hf
    refine XS.go (s_aloadn rfl rfl rfl) ?_
    refine XS.go (s_iloadn rfl rfl rfl) ?_
    rcases e6 : f_m_isSign a0 h with _ | r5
    · rw [e6] at hf; cases hf
    rw [e6] at hf; dsimp only at hf
    refine r_callv rfl xvX12_isSign xm12_234 (kf_m_isSign (d := d) L0 e6) (LY.lt L0 (by decide)) (LY.k1262 L0) (by decide) rfl rfl (by omega) (by decide) (Nat.le_of_ble_eq_true rfl) ?_
    rintro _ _ ⟨⟨rfl, rfl⟩, L7⟩
    refine r_if_ne (tgt := 19) rfl rfl (fun qc8 => ?_) (fun qc8 => ?_)
    · rw [if_pos qc8] at hf
      exact XR.forget (L2 := [some (.ref 1262), none]) ⟨rfl, trivial⟩ (kb_m_sign_19 L7 hf)
    · rw [if_neg qc8] at hf
      refine XS.go (s_aloadn rfl rfl rfl) ?_
      rcases e10 : f_m_misfit r5.2 with _ | r9
      · rw [e10] at hf; cases hf
      rw [e10] at hf; dsimp only at hf
      refine r_callv rfl xvX12_misfit xm12_237 (kf_m_misfit (d := d) L7 e10) (LY.lt L7 (by decide)) (LY.k1262 L7) (by decide) rfl rfl (by omega) (by decide) (Nat.le_of_ble_eq_true rfl) ?_
      rintro _ _ ⟨⟨rfl, rfl⟩, L11⟩
      exact XR.forget (L2 := [some (.ref 1262), none]) ⟨rfl, trivial⟩ (kb_m_sign_19 L11 hf)
def b_m_name_18 (h : XH) : Option (Unit × XH) := (match f_m_take h with | none => none | some r1 => (some ((), r1.2)))
set_option maxRecDepth 20000 in
theorem kb_m_name_18 {l : Launch} {G : XG} {d : Nat} {h : XH} {r : Unit × XH} (L0 : LY h) (hf : b_m_name_18 h = some r) : XR l G xEX12_name (d + 2) (18, [some (.ref 1262)], [], h) (fun C => ∃ v, xRet xEX12_name C v ∧ (C.2.2.2 = r.2 ∧ v = none) ∧ LY r.2) := by
  unfold b_m_name_18 at hf
  refine XS.go (s_aloadn rfl rfl rfl) ?_
  rcases e2 : f_m_take h with _ | r1
  · rw [e2] at hf; cases hf
  rw [e2] at hf; dsimp only at hf
  refine r_callv rfl xvX12_take xm12_240 (kf_m_take (d := d) L0 e2) (LY.lt L0 (by decide)) (LY.k1262 L0) (by decide) rfl rfl (by omega) (by decide) (Nat.le_of_ble_eq_true rfl) ?_
  rintro _ _ ⟨⟨rfl, rfl⟩, L3⟩
  cases hf
  exact XR.retv rfl rfl (fun hret => ⟨_, hret, ⟨rfl, rfl⟩, L3⟩)
def f_m_name (h : XH) : Option (Unit × XH) := (if ¬ (hi h 1262 14) = 0 then (b_m_name_18 h) else (match f_m_isName h with | none => none | some r5 => (if ¬ r5.1 = 0 then (b_m_name_18 r5.2) else (match f_m_misfit r5.2 with | none => none | some r9 => (b_m_name_18 r9.2)))))
set_option maxRecDepth 20000 in
theorem kf_m_name {l : Launch} {G : XG} {d : Nat} {h : XH} {r : Unit × XH} (L0 : LY h) (hf : f_m_name h = some r) : XC l G xEX12_name (d + 2) [.ref 1262] h (fun v h2 => (h2 = r.2 ∧ v = none) ∧ LY r.2) := by
  refine XC.virt xvX12_name (Nat.le_of_ble_eq_true rfl) ?_
  unfold f_m_name at hf
  refine XS.go (s_aloadn rfl rfl rfl) ?_
  refine XS.go (s_getie rfl xf12_221 (LY.lt L0 (by decide)) (LY.k1262 L0) (by decide) rfl rfl) ?_
  refine r_if_ne (tgt := 18) rfl rfl (fun qc4 => ?_) (fun qc4 => ?_)
  · rw [if_pos qc4] at hf
    exact XR.forget (L2 := [some (.ref 1262)]) ⟨rfl, trivial⟩ (kb_m_name_18 L0 hf)
  · rw [if_neg qc4] at hf
    refine XS.go (s_aloadn rfl rfl rfl) ?_
    rcases e6 : f_m_isName h with _ | r5
    · rw [e6] at hf; cases hf
    rw [e6] at hf; dsimp only at hf
    refine r_callv rfl xvX12_isName xm12_243 (kf_m_isName (d := d) L0 e6) (LY.lt L0 (by decide)) (LY.k1262 L0) (by decide) rfl rfl (by omega) (by decide) (Nat.le_of_ble_eq_true rfl) ?_
    rintro _ _ ⟨⟨rfl, rfl⟩, L7⟩
    refine r_if_ne (tgt := 18) rfl rfl (fun qc8 => ?_) (fun qc8 => ?_)
    · rw [if_pos qc8] at hf
      exact XR.forget (L2 := [some (.ref 1262)]) ⟨rfl, trivial⟩ (kb_m_name_18 L7 hf)
    · rw [if_neg qc8] at hf
      refine XS.go (s_aloadn rfl rfl rfl) ?_
      rcases e10 : f_m_misfit r5.2 with _ | r9
      · rw [e10] at hf; cases hf
      rw [e10] at hf; dsimp only at hf
      refine r_callv rfl xvX12_misfit xm12_237 (kf_m_misfit (d := d) L7 e10) (LY.lt L7 (by decide)) (LY.k1262 L7) (by decide) rfl rfl (by omega) (by decide) (Nat.le_of_ble_eq_true rfl) ?_
      rintro _ _ ⟨⟨rfl, rfl⟩, L11⟩
      exact XR.forget (L2 := [some (.ref 1262)]) ⟨rfl, trivial⟩ (kb_m_name_18 L11 hf)
def s_m_definition_2 (K2 : Int32 → Int32 → XH → Option (Int32 × XH)) (x1 : Int32) (x2 : Int32) (h : XH) : Option (Int32 × XH) := (if (hi h 1262 16) ≤ x2 then (some ((-1), h)) else (if 0 ≤ x2 ∧ x2 < nI 40 then (match f_m_sameName (hi h 1270 (Int32.toNatClampNeg x2)) x1 h with | none => none | some r3 => (if r3.1 = 0 then (K2 x1 (x2 + 1) r3.2) else (some (x2, r3.2)))) else none))
set_option maxRecDepth 20000 in
theorem ks_m_definition_2 {l : Launch} {G : XG} {d : Nat} {K2 : Int32 → Int32 → XH → Option (Int32 × XH)} {x1 : Int32} {x2 : Int32} {h : XH} {r : Int32 × XH} (hK2 : ∀ (x1 : Int32) (x2 : Int32) (h : XH), LY h → K2 x1 x2 h = some r → XR l G xEX12_definition (d + 1) (2, [some (.ref 1262), some (.int x1), some (.int x2)], [], h) (fun C => ∃ v, xRet xEX12_definition C v ∧ (C.2.2.2 = r.2 ∧ v = some (.int r.1)) ∧ LY r.2)) (L0 : LY h) (hf : s_m_definition_2 K2 x1 x2 h = some r) : XR l G xEX12_definition (d + 1) (2, [some (.ref 1262), some (.int x1), some (.int x2)], [], h) (fun C => ∃ v, xRet xEX12_definition C v ∧ (C.2.2.2 = r.2 ∧ v = some (.int r.1)) ∧ LY r.2) := by
  unfold s_m_definition_2 at hf
  refine XS.go (s_iloadn rfl rfl rfl) ?_
  refine XS.go (s_aloadn rfl rfl rfl) ?_
  refine XS.go (s_getie rfl xf12_247 (LY.lt L0 (by decide)) (LY.k1262 L0) (by decide) rfl rfl) ?_
  refine r_icmp_ge (tgt := 32) rfl rfl (fun qc1 => ?_) (fun qc1 => ?_)
  · rw [if_pos qc1] at hf
    refine XS.go (s_iconst (v := (-1)) rfl rfl) ?_
    cases hf
    exact XR.reti rfl rfl (fun hret => ⟨_, hret, ⟨rfl, rfl⟩, L0⟩)
  · rw [if_neg qc1] at hf
    refine XS.go (s_aloadn rfl rfl rfl) ?_
    refine XS.go (s_aloadn rfl rfl rfl) ?_
    refine XS.go (s_getr rfl xf12_31 (LY.lt L0 (by decide)) (LY.k1262 L0) (by decide) rfl (LY.r1262_17 L0)) ?_
    refine XS.go (s_iloadn rfl rfl rfl) ?_
    by_cases qk2 : 0 ≤ x2 ∧ x2 < nI 40
    rotate_left
    · rw [if_neg qk2] at hf; cases hf
    rw [if_pos qk2] at hf
    refine XS.go (s_ialde rfl (LY.lt L0 (by decide)) (LY.k1270 L0) (inLit (LY.n1270 L0) qk2.1 qk2.2 (by decide)) rfl) ?_
    refine XS.go (s_iloadn rfl rfl rfl) ?_
    rcases e4 : f_m_sameName (hi h 1270 (Int32.toNatClampNeg x2)) x1 h with _ | r3
    · rw [e4] at hf; cases hf
    rw [e4] at hf; dsimp only at hf
    refine r_callv rfl xvX12_sameName xm12_250 (kf_m_sameName (d := d) L0 e4) (LY.lt L0 (by decide)) (LY.k1262 L0) (by decide) rfl rfl (by omega) (by decide) (Nat.le_of_ble_eq_true rfl) ?_
    rintro _ _ ⟨⟨rfl, rfl⟩, L5⟩
    refine r_if_eq (tgt := 26) rfl rfl (fun qc6 => ?_) (fun qc6 => ?_)
    · rw [if_pos qc6] at hf
      refine XS.go (s_inc rfl rfl (Nat.le_of_ble_eq_true rfl)) ?_
      refine XS.go (s_goto (tgt := 2) rfl rfl) ?_
      exact XR.forget (L2 := [some (.ref 1262), some (.int x1), some (.int (x2 + 1))]) ⟨rfl, ⟨rfl, ⟨rfl, trivial⟩⟩⟩ (hK2 x1 (x2 + 1) _ L5 hf)
    · rw [if_neg qc6] at hf
      refine XS.go (s_iloadn rfl rfl rfl) ?_
      cases hf
      exact XR.reti rfl rfl (fun hret => ⟨_, hret, ⟨rfl, rfl⟩, L5⟩)
def b_m_definition_2 : Nat → Int32 → Int32 → XH → Option (Int32 × XH)
  | 0, _, _, _ => none
  | n + 1, x1, x2, h => s_m_definition_2 (b_m_definition_2 n) x1 x2 h
theorem kb_m_definition_2 {l : Launch} {G : XG} {d : Nat} {n : Nat} {x1 : Int32} {x2 : Int32} {h : XH} {r : Int32 × XH} (L0 : LY h) (hf : b_m_definition_2 n x1 x2 h = some r) : XR l G xEX12_definition (d + 1) (2, [some (.ref 1262), some (.int x1), some (.int x2)], [], h) (fun C => ∃ v, xRet xEX12_definition C v ∧ (C.2.2.2 = r.2 ∧ v = some (.int r.1)) ∧ LY r.2) := by
  induction n generalizing x1 x2 h with
  | zero => cases hf
  | succ n ih => exact ks_m_definition_2 (fun x1 x2 h L0 hf => ih (h := h) (x1 := x1) (x2 := x2) L0 hf) L0 hf
def f_m_definition (a0 : Int32) (h : XH) : Option (Int32 × XH) := (b_m_definition_2 100000 a0 0 h)
set_option maxRecDepth 20000 in
theorem kf_m_definition {l : Launch} {G : XG} {d : Nat} {a0 : Int32} {h : XH} {r : Int32 × XH} (L0 : LY h) (hf : f_m_definition a0 h = some r) : XC l G xEX12_definition (d + 1) [.ref 1262, .int a0] h (fun v h2 => (h2 = r.2 ∧ v = some (.int r.1)) ∧ LY r.2) := by
  refine XC.virt xvX12_definition (Nat.le_of_ble_eq_true rfl) ?_
  unfold f_m_definition at hf
  refine XS.go (s_iconst (v := 0) rfl rfl) ?_
  refine XS.go (s_istoren rfl rfl (Nat.le_of_ble_eq_true rfl)) ?_
  exact XR.forget (L2 := [some (.ref 1262), some (.int a0), some (.int 0)]) ⟨rfl, ⟨rfl, ⟨rfl, trivial⟩⟩⟩ (kb_m_definition_2 L0 hf)
def b_m_fresh_62 (x3 : Int32) (x4 : Int32) (h : XH) : Option (Unit × XH) := (if ¬ (hi h 1262 14) = 0 then (some ((), h)) else (if ¬ x3 = x4 then (some ((), h)) else (match f_m_flaw 4 h with | none => none | some r3 => (some ((), r3.2)))))
set_option maxRecDepth 20000 in
theorem kb_m_fresh_62 {l : Launch} {G : XG} {d : Nat} {x3 : Int32} {x4 : Int32} {h : XH} {r : Unit × XH} (L0 : LY h) (hf : b_m_fresh_62 x3 x4 h = some r) : XR l G xEX12_fresh (d + 2) (62, [some (.ref 1262), none, none, some (.int x3), some (.int x4), none], [], h) (fun C => ∃ v, xRet xEX12_fresh C v ∧ (C.2.2.2 = r.2 ∧ v = none) ∧ LY r.2) := by
  unfold b_m_fresh_62 at hf
  refine XS.go (s_aloadn rfl rfl rfl) ?_
  refine XS.go (s_getie rfl xf12_221 (LY.lt L0 (by decide)) (LY.k1262 L0) (by decide) rfl rfl) ?_
  refine r_if_ne (tgt := 80) rfl rfl (fun qc1 => ?_) (fun qc1 => ?_)
  · rw [if_pos qc1] at hf
    cases hf
    exact XR.retv rfl rfl (fun hret => ⟨_, hret, ⟨rfl, rfl⟩, L0⟩)
  · rw [if_neg qc1] at hf
    refine XS.go (s_iloadn rfl rfl rfl) ?_
    refine XS.go (s_iload rfl rfl) ?_
    refine r_icmp_ne (tgt := 80) rfl rfl (fun qc2 => ?_) (fun qc2 => ?_)
    · rw [if_pos qc2] at hf
      cases hf
      exact XR.retv rfl rfl (fun hret => ⟨_, hret, ⟨rfl, rfl⟩, L0⟩)
    · rw [if_neg qc2] at hf
      refine XS.go (s_aloadn rfl rfl rfl) ?_
      refine XS.go (s_iconst (v := 4) rfl rfl) ?_
      rcases e4 : f_m_flaw 4 h with _ | r3
      · rw [e4] at hf; cases hf
      rw [e4] at hf; dsimp only at hf
      refine r_callv rfl xvX12_flaw xm12_230 (kf_m_flaw (d := d) L0 e4) (LY.lt L0 (by decide)) (LY.k1262 L0) (by decide) rfl rfl (by omega) (by decide) (Nat.le_of_ble_eq_true rfl) ?_
      rintro _ _ ⟨⟨rfl, rfl⟩, L5⟩
      cases hf
      exact XR.retv rfl rfl (fun hret => ⟨_, hret, ⟨rfl, rfl⟩, L5⟩)
def b_m_fresh_56 (K21 : Nat → Int32 → Int32 → Int32 → Int32 → XH → Option (Unit × XH)) (x1 : Nat) (x2 : Int32) (x3 : Int32) (x4 : Int32) (x5 : Int32) (h : XH) : Option (Unit × XH) := (K21 x1 x2 x3 x4 (x5 + 1) h)
set_option maxRecDepth 20000 in
theorem kb_m_fresh_56 {l : Launch} {G : XG} {d : Nat} {K21 : Nat → Int32 → Int32 → Int32 → Int32 → XH → Option (Unit × XH)} {x1 : Nat} {x2 : Int32} {x3 : Int32} {x4 : Int32} {x5 : Int32} {h : XH} {r : Unit × XH} (hK21 : ∀ (x1 : Nat) (x2 : Int32) (x3 : Int32) (x4 : Int32) (x5 : Int32) (h : XH), LY h → K21 x1 x2 x3 x4 x5 h = some r → XR l G xEX12_fresh (d + 2) (21, [some (.ref 1262), some (.ref x1), some (.int x2), some (.int x3), some (.int x4), some (.int x5)], [], h) (fun C => ∃ v, xRet xEX12_fresh C v ∧ (C.2.2.2 = r.2 ∧ v = none) ∧ LY r.2)) (L0 : LY h) (hf : b_m_fresh_56 K21 x1 x2 x3 x4 x5 h = some r) : XR l G xEX12_fresh (d + 2) (56, [some (.ref 1262), some (.ref x1), some (.int x2), some (.int x3), some (.int x4), some (.int x5)], [], h) (fun C => ∃ v, xRet xEX12_fresh C v ∧ (C.2.2.2 = r.2 ∧ v = none) ∧ LY r.2) := by
  unfold b_m_fresh_56 at hf
  refine XS.go (s_inc rfl rfl (Nat.le_of_ble_eq_true rfl)) ?_
  refine XS.go (s_goto (tgt := 21) rfl rfl) ?_
  exact XR.forget (L2 := [some (.ref 1262), some (.ref x1), some (.int x2), some (.int x3), some (.int x4), some (.int (x5 + 1))]) ⟨rfl, ⟨rfl, ⟨rfl, ⟨rfl, ⟨rfl, ⟨rfl, trivial⟩⟩⟩⟩⟩⟩ (hK21 x1 x2 x3 x4 (x5 + 1) _ L0 hf)
def s_m_fresh_21 (K21 : Nat → Int32 → Int32 → Int32 → Int32 → XH → Option (Unit × XH)) (x1 : Nat) (x2 : Int32) (x3 : Int32) (x4 : Int32) (x5 : Int32) (h : XH) : Option (Unit × XH) := (if x3 ≤ x5 then (b_m_fresh_62 x3 x4 h) else (if ¬ (hi h 1262 14) = 0 then (b_m_fresh_62 x3 x4 h) else (if x1 < hz h ∧ hk h x1 = 100 then (if 0 ≤ (x2 + x5) ∧ (x2 + x5) < nI (hn h x1) ∧ (hn h x1) < 2 ^ 31 then (match f_m_sameName (hi h x1 (Int32.toNatClampNeg (x2 + x5))) (hi h 1262 13) h with | none => none | some r10 => (if r10.1 = 0 then (b_m_fresh_56 K21 x1 x2 x3 x4 x5 r10.2) else (match f_m_flaw 3 r10.2 with | none => none | some r14 => (b_m_fresh_56 K21 x1 x2 x3 x4 x5 r14.2)))) else none) else none)))
set_option maxRecDepth 20000 in
theorem ks_m_fresh_21 {l : Launch} {G : XG} {d : Nat} {K21 : Nat → Int32 → Int32 → Int32 → Int32 → XH → Option (Unit × XH)} {x1 : Nat} {x2 : Int32} {x3 : Int32} {x4 : Int32} {x5 : Int32} {h : XH} {r : Unit × XH} (hK21 : ∀ (x1 : Nat) (x2 : Int32) (x3 : Int32) (x4 : Int32) (x5 : Int32) (h : XH), LY h → K21 x1 x2 x3 x4 x5 h = some r → XR l G xEX12_fresh (d + 2) (21, [some (.ref 1262), some (.ref x1), some (.int x2), some (.int x3), some (.int x4), some (.int x5)], [], h) (fun C => ∃ v, xRet xEX12_fresh C v ∧ (C.2.2.2 = r.2 ∧ v = none) ∧ LY r.2)) (L0 : LY h) (hf : s_m_fresh_21 K21 x1 x2 x3 x4 x5 h = some r) : XR l G xEX12_fresh (d + 2) (21, [some (.ref 1262), some (.ref x1), some (.int x2), some (.int x3), some (.int x4), some (.int x5)], [], h) (fun C => ∃ v, xRet xEX12_fresh C v ∧ (C.2.2.2 = r.2 ∧ v = none) ∧ LY r.2) := by
  unfold s_m_fresh_21 at hf
  refine XS.go (s_iload rfl rfl) ?_
  refine XS.go (s_iloadn rfl rfl rfl) ?_
  refine r_icmp_ge (tgt := 62) rfl rfl (fun qc6 => ?_) (fun qc6 => ?_)
  · rw [if_pos qc6] at hf
    exact XR.forget (L2 := [some (.ref 1262), none, none, some (.int x3), some (.int x4), none]) ⟨rfl, ⟨rfl, ⟨rfl, trivial⟩⟩⟩ (kb_m_fresh_62 L0 hf)
  · rw [if_neg qc6] at hf
    refine XS.go (s_aloadn rfl rfl rfl) ?_
    refine XS.go (s_getie rfl xf12_221 (LY.lt L0 (by decide)) (LY.k1262 L0) (by decide) rfl rfl) ?_
    refine r_if_ne (tgt := 62) rfl rfl (fun qc7 => ?_) (fun qc7 => ?_)
    · rw [if_pos qc7] at hf
      exact XR.forget (L2 := [some (.ref 1262), none, none, some (.int x3), some (.int x4), none]) ⟨rfl, ⟨rfl, ⟨rfl, trivial⟩⟩⟩ (kb_m_fresh_62 L0 hf)
    · rw [if_neg qc7] at hf
      refine XS.go (s_aloadn rfl rfl rfl) ?_
      refine XS.go (s_aloadn rfl rfl rfl) ?_
      refine XS.go (s_iloadn rfl rfl rfl) ?_
      refine XS.go (s_iload rfl rfl) ?_
      refine XS.go (s_iadd rfl) ?_
      by_cases qk8 : x1 < hz h ∧ hk h x1 = 100
      rotate_left
      · rw [if_neg qk8] at hf; cases hf
      rw [if_pos qk8] at hf
      by_cases qk9 : 0 ≤ (x2 + x5) ∧ (x2 + x5) < nI (hn h x1) ∧ (hn h x1) < 2 ^ 31
      rotate_left
      · rw [if_neg qk9] at hf; cases hf
      rw [if_pos qk9] at hf
      refine XS.go (s_ialde rfl qk8.1 qk8.2 (inLit (N := hn h x1) rfl qk9.1 qk9.2.1 qk9.2.2) rfl) ?_
      refine XS.go (s_aloadn rfl rfl rfl) ?_
      refine XS.go (s_getie rfl xf12_224 (LY.lt L0 (by decide)) (LY.k1262 L0) (by decide) rfl rfl) ?_
      rcases e11 : f_m_sameName (hi h x1 (Int32.toNatClampNeg (x2 + x5))) (hi h 1262 13) h with _ | r10
      · rw [e11] at hf; cases hf
      rw [e11] at hf; dsimp only at hf
      refine r_callv rfl xvX12_sameName xm12_250 (kf_m_sameName (d := d) L0 e11) (LY.lt L0 (by decide)) (LY.k1262 L0) (by decide) rfl rfl (by omega) (by decide) (Nat.le_of_ble_eq_true rfl) ?_
      rintro _ _ ⟨⟨rfl, rfl⟩, L12⟩
      refine r_if_eq (tgt := 56) rfl rfl (fun qc13 => ?_) (fun qc13 => ?_)
      · rw [if_pos qc13] at hf
        exact XR.forget (L2 := [some (.ref 1262), some (.ref x1), some (.int x2), some (.int x3), some (.int x4), some (.int x5)]) ⟨rfl, ⟨rfl, ⟨rfl, ⟨rfl, ⟨rfl, ⟨rfl, trivial⟩⟩⟩⟩⟩⟩ (kb_m_fresh_56 hK21 L12 hf)
      · rw [if_neg qc13] at hf
        refine XS.go (s_aloadn rfl rfl rfl) ?_
        refine XS.go (s_iconst (v := 3) rfl rfl) ?_
        rcases e15 : f_m_flaw 3 r10.2 with _ | r14
        · rw [e15] at hf; cases hf
        rw [e15] at hf; dsimp only at hf
        refine r_callv rfl xvX12_flaw xm12_230 (kf_m_flaw (d := d) L12 e15) (LY.lt L12 (by decide)) (LY.k1262 L12) (by decide) rfl rfl (by omega) (by decide) (Nat.le_of_ble_eq_true rfl) ?_
        rintro _ _ ⟨⟨rfl, rfl⟩, L16⟩
        exact XR.forget (L2 := [some (.ref 1262), some (.ref x1), some (.int x2), some (.int x3), some (.int x4), some (.int x5)]) ⟨rfl, ⟨rfl, ⟨rfl, ⟨rfl, ⟨rfl, ⟨rfl, trivial⟩⟩⟩⟩⟩⟩ (kb_m_fresh_56 hK21 L16 hf)
def b_m_fresh_21 : Nat → Nat → Int32 → Int32 → Int32 → Int32 → XH → Option (Unit × XH)
  | 0, _, _, _, _, _, _ => none
  | n + 1, x1, x2, x3, x4, x5, h => s_m_fresh_21 (b_m_fresh_21 n) x1 x2 x3 x4 x5 h
theorem kb_m_fresh_21 {l : Launch} {G : XG} {d : Nat} {n : Nat} {x1 : Nat} {x2 : Int32} {x3 : Int32} {x4 : Int32} {x5 : Int32} {h : XH} {r : Unit × XH} (L0 : LY h) (hf : b_m_fresh_21 n x1 x2 x3 x4 x5 h = some r) : XR l G xEX12_fresh (d + 2) (21, [some (.ref 1262), some (.ref x1), some (.int x2), some (.int x3), some (.int x4), some (.int x5)], [], h) (fun C => ∃ v, xRet xEX12_fresh C v ∧ (C.2.2.2 = r.2 ∧ v = none) ∧ LY r.2) := by
  induction n generalizing x1 x2 x3 x4 x5 h with
  | zero => cases hf
  | succ n ih => exact ks_m_fresh_21 (fun x1 x2 x3 x4 x5 h L0 hf => ih (h := h) (x1 := x1) (x2 := x2) (x3 := x3) (x4 := x4) (x5 := x5) L0 hf) L0 hf
def b_m_fresh_18 (x1 : Nat) (x2 : Int32) (x3 : Int32) (x4 : Int32) (h : XH) : Option (Unit × XH) := (b_m_fresh_21 100000 x1 x2 x3 x4 0 h)
set_option maxRecDepth 20000 in
theorem kb_m_fresh_18 {l : Launch} {G : XG} {d : Nat} {x1 : Nat} {x2 : Int32} {x3 : Int32} {x4 : Int32} {h : XH} {r : Unit × XH} (L0 : LY h) (hf : b_m_fresh_18 x1 x2 x3 x4 h = some r) : XR l G xEX12_fresh (d + 2) (18, [some (.ref 1262), some (.ref x1), some (.int x2), some (.int x3), some (.int x4), none], [], h) (fun C => ∃ v, xRet xEX12_fresh C v ∧ (C.2.2.2 = r.2 ∧ v = none) ∧ LY r.2) := by
  unfold b_m_fresh_18 at hf
  refine XS.go (s_iconst (v := 0) rfl rfl) ?_
  refine XS.go (s_istore rfl (Nat.le_of_ble_eq_true rfl)) ?_
  exact XR.forget (L2 := [some (.ref 1262), some (.ref x1), some (.int x2), some (.int x3), some (.int x4), some (.int 0)]) ⟨rfl, ⟨rfl, ⟨rfl, ⟨rfl, ⟨rfl, ⟨rfl, trivial⟩⟩⟩⟩⟩⟩ (kb_m_fresh_21 L0 hf)
def f_m_fresh (a0 : Nat) (a1 : Int32) (a2 : Int32) (a3 : Int32) (h : XH) : Option (Unit × XH) := (if ¬ (hi h 1262 14) = 0 then (b_m_fresh_18 a0 a1 a2 a3 h) else (match f_m_isName h with | none => none | some r18 => (if ¬ r18.1 = 0 then (b_m_fresh_18 a0 a1 a2 a3 r18.2) else (match f_m_misfit r18.2 with | none => none | some r22 => (b_m_fresh_18 a0 a1 a2 a3 r22.2)))))
set_option maxRecDepth 20000 in
theorem kf_m_fresh {l : Launch} {G : XG} {d : Nat} {a0 : Nat} {a1 : Int32} {a2 : Int32} {a3 : Int32} {h : XH} {r : Unit × XH} (L0 : LY h) (hf : f_m_fresh a0 a1 a2 a3 h = some r) : XC l G xEX12_fresh (d + 2) [.ref 1262, .ref a0, .int a1, .int a2, .int a3] h (fun v h2 => (h2 = r.2 ∧ v = none) ∧ LY r.2) := by
  refine XC.virt xvX12_fresh (Nat.le_of_ble_eq_true rfl) ?_
  unfold f_m_fresh at hf
  refine XS.go (s_aloadn rfl rfl rfl) ?_
  refine XS.go (s_getie rfl xf12_221 (LY.lt L0 (by decide)) (LY.k1262 L0) (by decide) rfl rfl) ?_
  refine r_if_ne (tgt := 18) rfl rfl (fun qc17 => ?_) (fun qc17 => ?_)
  · rw [if_pos qc17] at hf
    exact XR.forget (L2 := [some (.ref 1262), some (.ref a0), some (.int a1), some (.int a2), some (.int a3), none]) ⟨rfl, ⟨rfl, ⟨rfl, ⟨rfl, ⟨rfl, trivial⟩⟩⟩⟩⟩ (kb_m_fresh_18 L0 hf)
  · rw [if_neg qc17] at hf
    refine XS.go (s_aloadn rfl rfl rfl) ?_
    rcases e19 : f_m_isName h with _ | r18
    · rw [e19] at hf; cases hf
    rw [e19] at hf; dsimp only at hf
    refine r_callv rfl xvX12_isName xm12_243 (kf_m_isName (d := d) L0 e19) (LY.lt L0 (by decide)) (LY.k1262 L0) (by decide) rfl rfl (by omega) (by decide) (Nat.le_of_ble_eq_true rfl) ?_
    rintro _ _ ⟨⟨rfl, rfl⟩, L20⟩
    refine r_if_ne (tgt := 18) rfl rfl (fun qc21 => ?_) (fun qc21 => ?_)
    · rw [if_pos qc21] at hf
      exact XR.forget (L2 := [some (.ref 1262), some (.ref a0), some (.int a1), some (.int a2), some (.int a3), none]) ⟨rfl, ⟨rfl, ⟨rfl, ⟨rfl, ⟨rfl, trivial⟩⟩⟩⟩⟩ (kb_m_fresh_18 L20 hf)
    · rw [if_neg qc21] at hf
      refine XS.go (s_aloadn rfl rfl rfl) ?_
      rcases e23 : f_m_misfit r18.2 with _ | r22
      · rw [e23] at hf; cases hf
      rw [e23] at hf; dsimp only at hf
      refine r_callv rfl xvX12_misfit xm12_237 (kf_m_misfit (d := d) L20 e23) (LY.lt L20 (by decide)) (LY.k1262 L20) (by decide) rfl rfl (by omega) (by decide) (Nat.le_of_ble_eq_true rfl) ?_
      rintro _ _ ⟨⟨rfl, rfl⟩, L24⟩
      exact XR.forget (L2 := [some (.ref 1262), some (.ref a0), some (.int a1), some (.int a2), some (.int a3), none]) ⟨rfl, ⟨rfl, ⟨rfl, ⟨rfl, ⟨rfl, trivial⟩⟩⟩⟩⟩ (kb_m_fresh_18 L24 hf)
def f_m_ask (a0 : Int32) (a1 : Int32) (a2 : Int32) (h : XH) : Option (Unit × XH) := (if ¬ (hi h 1262 14) = 0 then (some ((), h)) else (if 0 ≤ (hi h 1262 46) ∧ (hi h 1262 46) < nI 400 then (some ((), (hsi (hsi (hsi (hsi h 1295 (Int32.toNatClampNeg (hi h 1262 46)) a0) 1296 (Int32.toNatClampNeg (hi h 1262 46)) a1) 1297 (Int32.toNatClampNeg (hi h 1262 46)) a2) 1262 46 ((hi h 1262 46) + 1)))) else none))
set_option maxRecDepth 20000 in
theorem kf_m_ask {l : Launch} {G : XG} {d : Nat} {a0 : Int32} {a1 : Int32} {a2 : Int32} {h : XH} {r : Unit × XH} (L0 : LY h) (hf : f_m_ask a0 a1 a2 h = some r) : XC l G xEX12_ask d [.ref 1262, .int a0, .int a1, .int a2] h (fun v h2 => (h2 = r.2 ∧ v = none) ∧ LY r.2) := by
  refine XC.virt xvX12_ask (Nat.le_of_ble_eq_true rfl) ?_
  unfold f_m_ask at hf
  refine XS.go (s_aloadn rfl rfl rfl) ?_
  refine XS.go (s_getie rfl xf12_221 (LY.lt L0 (by decide)) (LY.k1262 L0) (by decide) rfl rfl) ?_
  refine r_if_ne (tgt := 47) rfl rfl (fun qc1 => ?_) (fun qc1 => ?_)
  · rw [if_pos qc1] at hf
    cases hf
    exact XR.retv rfl rfl (fun hret => ⟨_, hret, ⟨rfl, rfl⟩, L0⟩)
  · rw [if_neg qc1] at hf
    refine XS.go (s_aloadn rfl rfl rfl) ?_
    refine XS.go (s_getr rfl xf12_107 (LY.lt L0 (by decide)) (LY.k1262 L0) (by decide) rfl (LY.r1262_47 L0)) ?_
    refine XS.go (s_aloadn rfl rfl rfl) ?_
    refine XS.go (s_getie rfl xf12_263 (LY.lt L0 (by decide)) (LY.k1262 L0) (by decide) rfl rfl) ?_
    refine XS.go (s_iloadn rfl rfl rfl) ?_
    by_cases qk2 : 0 ≤ (hi h 1262 46) ∧ (hi h 1262 46) < nI 400
    rotate_left
    · rw [if_neg qk2] at hf; cases hf
    rw [if_pos qk2] at hf
    refine XS.go (s_iast rfl (LY.lt L0 (by decide)) (LY.k1295 L0) (inLit (LY.n1295 L0) qk2.1 qk2.2 (by decide))) ?_
    refine XS.go (s_aloadn rfl rfl rfl) ?_
    refine XS.go (s_getr rfl xf12_110 (LY.lt (by simp only [LY_si, LY_sj]; exact L0) (by decide)) (LY.k1262 (by simp only [LY_si, LY_sj]; exact L0)) (by decide) rfl (LY.r1262_48 (by simp only [LY_si, LY_sj]; exact L0))) ?_
    refine XS.go (s_aloadn rfl rfl rfl) ?_
    refine XS.go (s_getie rfl xf12_263 (LY.lt (by simp only [LY_si, LY_sj]; exact L0) (by decide)) (LY.k1262 (by simp only [LY_si, LY_sj]; exact L0)) (by decide) rfl (hi_hsi_na (by decide))) ?_
    refine XS.go (s_iloadn rfl rfl rfl) ?_
    refine XS.go (s_iast rfl (LY.lt (by simp only [LY_si, LY_sj]; exact L0) (by decide)) (LY.k1296 (by simp only [LY_si, LY_sj]; exact L0)) (inLit (LY.n1296 (by simp only [LY_si, LY_sj]; exact L0)) qk2.1 qk2.2 (by decide))) ?_
    refine XS.go (s_aloadn rfl rfl rfl) ?_
    refine XS.go (s_getr rfl xf12_113 (LY.lt (by simp only [LY_si, LY_sj]; exact L0) (by decide)) (LY.k1262 (by simp only [LY_si, LY_sj]; exact L0)) (by decide) rfl (LY.r1262_49 (by simp only [LY_si, LY_sj]; exact L0))) ?_
    refine XS.go (s_aloadn rfl rfl rfl) ?_
    refine XS.go (s_getie rfl xf12_263 (LY.lt (by simp only [LY_si, LY_sj]; exact L0) (by decide)) (LY.k1262 (by simp only [LY_si, LY_sj]; exact L0)) (by decide) rfl ((hi_hsi_na (by decide)).trans (hi_hsi_na (by decide)))) ?_
    refine XS.go (s_iloadn rfl rfl rfl) ?_
    refine XS.go (s_iast rfl (LY.lt (by simp only [LY_si, LY_sj]; exact L0) (by decide)) (LY.k1297 (by simp only [LY_si, LY_sj]; exact L0)) (inLit (LY.n1297 (by simp only [LY_si, LY_sj]; exact L0)) qk2.1 qk2.2 (by decide))) ?_
    refine XS.go (s_aloadn rfl rfl rfl) ?_
    refine XS.go (s_dup rfl rfl) ?_
    refine XS.go (s_getie rfl xf12_263 (LY.lt (by simp only [LY_si, LY_sj]; exact L0) (by decide)) (LY.k1262 (by simp only [LY_si, LY_sj]; exact L0)) (by decide) rfl ((hi_hsi_na (by decide)).trans ((hi_hsi_na (by decide)).trans (hi_hsi_na (by decide))))) ?_
    refine XS.go (s_iconst (v := 1) rfl rfl) ?_
    refine XS.go (s_iadd rfl) ?_
    refine XS.go (s_puti rfl xf12_263 (LY.lt (by simp only [LY_si, LY_sj]; exact L0) (by decide)) (LY.k1262 (by simp only [LY_si, LY_sj]; exact L0)) (by decide) rfl (Or.inl rfl)) ?_
    cases hf
    exact XR.retv rfl rfl (fun hret => ⟨_, hret, ⟨rfl, rfl⟩, (by simp only [LY_si, LY_sj]; exact L0)⟩)
def b_m_bytesOf_30 (h : XH) : Option (Int32 × XH) := (some (4, h))
set_option maxRecDepth 20000 in
theorem kb_m_bytesOf_30 {l : Launch} {G : XG} {d : Nat} {h : XH} {r : Int32 × XH} (L0 : LY h) (hf : b_m_bytesOf_30 h = some r) : XR l G xEX12_bytesOf d (30, [none], [], h) (fun C => ∃ v, xRet xEX12_bytesOf C v ∧ (C.2.2.2 = r.2 ∧ v = some (.int r.1)) ∧ LY r.2) := by
  unfold b_m_bytesOf_30 at hf
  refine XS.go (s_iconst (v := 4) rfl rfl) ?_
  refine XS.go (s_goto (tgt := 36) rfl rfl) ?_
  cases hf
  exact XR.reti rfl rfl (fun hret => ⟨_, hret, ⟨rfl, rfl⟩, L0⟩)
def f_m_bytesOf (a0 : Int32) (h : XH) : Option (Int32 × XH) := (if 2 < a0 then (if 4 < a0 then (if a0 ≤ 6 then (b_m_bytesOf_30 h) else (if ¬ a0 = 9 then (some (8, h)) else (b_m_bytesOf_30 h))) else (some (2, h))) else (some (1, h)))
set_option maxRecDepth 20000 in
theorem kf_m_bytesOf {l : Launch} {G : XG} {d : Nat} {a0 : Int32} {h : XH} {r : Int32 × XH} (L0 : LY h) (hf : f_m_bytesOf a0 h = some r) : XC l G xEX12_bytesOf d [.int a0] h (fun v h2 => (h2 = r.2 ∧ v = some (.int r.1)) ∧ LY r.2) := by
  refine XC.stat xsX12_bytesOf (Nat.le_of_ble_eq_true rfl) ?_
  unfold f_m_bytesOf at hf
  refine XS.go (s_iloadn rfl rfl rfl) ?_
  refine XS.go (s_iconst (v := 2) rfl rfl) ?_
  refine r_icmp_gt (tgt := 9) rfl rfl (fun qc1 => ?_) (fun qc1 => ?_)
  · rw [if_pos qc1] at hf
    refine XS.go (s_iloadn rfl rfl rfl) ?_
    refine XS.go (s_iconst (v := 4) rfl rfl) ?_
    refine r_icmp_gt (tgt := 18) rfl rfl (fun qc2 => ?_) (fun qc2 => ?_)
    · rw [if_pos qc2] at hf
      refine XS.go (s_iloadn rfl rfl rfl) ?_
      refine XS.go (s_bipush (v := 6) rfl rfl) ?_
      refine r_icmp_le (tgt := 30) rfl rfl (fun qc3 => ?_) (fun qc3 => ?_)
      · rw [if_pos qc3] at hf
        exact XR.forget (L2 := [none]) trivial (kb_m_bytesOf_30 L0 hf)
      · rw [if_neg qc3] at hf
        refine XS.go (s_iloadn rfl rfl rfl) ?_
        refine XS.go (s_bipush (v := 9) rfl rfl) ?_
        refine r_icmp_ne (tgt := 34) rfl rfl (fun qc4 => ?_) (fun qc4 => ?_)
        · rw [if_pos qc4] at hf
          refine XS.go (s_bipush (v := 8) rfl rfl) ?_
          cases hf
          exact XR.reti rfl rfl (fun hret => ⟨_, hret, ⟨rfl, rfl⟩, L0⟩)
        · rw [if_neg qc4] at hf
          exact XR.forget (L2 := [none]) trivial (kb_m_bytesOf_30 L0 hf)
    · rw [if_neg qc2] at hf
      refine XS.go (s_iconst (v := 2) rfl rfl) ?_
      refine XS.go (s_goto (tgt := 36) rfl rfl) ?_
      cases hf
      exact XR.reti rfl rfl (fun hret => ⟨_, hret, ⟨rfl, rfl⟩, L0⟩)
  · rw [if_neg qc1] at hf
    refine XS.go (s_iconst (v := 1) rfl rfl) ?_
    refine XS.go (s_goto (tgt := 36) rfl rfl) ?_
    cases hf
    exact XR.reti rfl rfl (fun hret => ⟨_, hret, ⟨rfl, rfl⟩, L0⟩)
def b_m_flatten_109 (K20 : Int32 → Int32 → Int32 → Int32 → Int32 → XH → Option (Unit × XH)) (x1 : Int32) (x2 : Int32) (x3 : Int32) (x4 : Int32) (x5 : Int32) (y1 : Int32) (y2 : Int32) (y3 : Int32) (h : XH) : Option (Unit × XH) := (if 0 ≤ y1 ∧ y1 < nI 1536 then (if 0 ≤ x1 ∧ x1 < nI 12 then (K20 x1 x2 x3 x4 (x5 + 1) (hsi (hsi h 1282 (Int32.toNatClampNeg y1) (y2 + y3)) 1280 (Int32.toNatClampNeg x1) ((hi h 1280 (Int32.toNatClampNeg x1)) + 1))) else none) else none)
set_option maxRecDepth 20000 in
theorem kb_m_flatten_109 {l : Launch} {G : XG} {d : Nat} {K20 : Int32 → Int32 → Int32 → Int32 → Int32 → XH → Option (Unit × XH)} {x1 : Int32} {x2 : Int32} {x3 : Int32} {x4 : Int32} {x5 : Int32} {y1 : Int32} {y2 : Int32} {y3 : Int32} {h : XH} {r : Unit × XH} (hK20 : ∀ (x1 : Int32) (x2 : Int32) (x3 : Int32) (x4 : Int32) (x5 : Int32) (h : XH), LY h → K20 x1 x2 x3 x4 x5 h = some r → XR l G xEX12_flatten d (20, [some (.ref 1262), some (.int x1), some (.int x2), some (.int x3), some (.int x4), some (.int x5), none], [], h) (fun C => ∃ v, xRet xEX12_flatten C v ∧ (C.2.2.2 = r.2 ∧ v = none) ∧ LY r.2)) (L0 : LY h) (hf : b_m_flatten_109 K20 x1 x2 x3 x4 x5 y1 y2 y3 h = some r) : XR l G xEX12_flatten d (109, [some (.ref 1262), some (.int x1), some (.int x2), some (.int x3), some (.int x4), some (.int x5), none], [(.int y3), (.int y2), (.int y1), (.ref 1282)], h) (fun C => ∃ v, xRet xEX12_flatten C v ∧ (C.2.2.2 = r.2 ∧ v = none) ∧ LY r.2) := by
  unfold b_m_flatten_109 at hf
  refine XS.go (s_iadd rfl) ?_
  by_cases qk1 : 0 ≤ y1 ∧ y1 < nI 1536
  rotate_left
  · rw [if_neg qk1] at hf; cases hf
  rw [if_pos qk1] at hf
  refine XS.go (s_iast rfl (LY.lt L0 (by decide)) (LY.k1282 L0) (inLit (LY.n1282 L0) qk1.1 qk1.2 (by decide))) ?_
  refine XS.go (s_aloadn rfl rfl rfl) ?_
  refine XS.go (s_getr rfl xf12_61 (LY.lt (by simp only [LY_si, LY_sj]; exact L0) (by decide)) (LY.k1262 (by simp only [LY_si, LY_sj]; exact L0)) (by decide) rfl (LY.r1262_28 (by simp only [LY_si, LY_sj]; exact L0))) ?_
  refine XS.go (s_iloadn rfl rfl rfl) ?_
  refine XS.go (s_dup2 rfl rfl rfl) ?_
  by_cases qk2 : 0 ≤ x1 ∧ x1 < nI 12
  rotate_left
  · rw [if_neg qk2] at hf; cases hf
  rw [if_pos qk2] at hf
  refine XS.go (s_ialde rfl (LY.lt (by simp only [LY_si, LY_sj]; exact L0) (by decide)) (LY.k1280 (by simp only [LY_si, LY_sj]; exact L0)) (inLit (LY.n1280 (by simp only [LY_si, LY_sj]; exact L0)) qk2.1 qk2.2 (by decide)) (hi_hsi_na (by decide))) ?_
  refine XS.go (s_iconst (v := 1) rfl rfl) ?_
  refine XS.go (s_iadd rfl) ?_
  refine XS.go (s_iast rfl (LY.lt (by simp only [LY_si, LY_sj]; exact L0) (by decide)) (LY.k1280 (by simp only [LY_si, LY_sj]; exact L0)) (inLit (LY.n1280 (by simp only [LY_si, LY_sj]; exact L0)) qk2.1 qk2.2 (by decide))) ?_
  refine XS.go (s_inc rfl rfl (Nat.le_of_ble_eq_true rfl)) ?_
  refine XS.go (s_goto (tgt := 20) rfl rfl) ?_
  exact XR.forget (L2 := [some (.ref 1262), some (.int x1), some (.int x2), some (.int x3), some (.int x4), some (.int (x5 + 1)), none]) ⟨rfl, ⟨rfl, ⟨rfl, ⟨rfl, ⟨rfl, ⟨rfl, trivial⟩⟩⟩⟩⟩⟩ (hK20 x1 x2 x3 x4 (x5 + 1) _ (by simp only [LY_si, LY_sj]; exact L0) hf)
def b_m_flatten_74 (K20 : Int32 → Int32 → Int32 → Int32 → Int32 → XH → Option (Unit × XH)) (x1 : Int32) (x2 : Int32) (x3 : Int32) (x4 : Int32) (x5 : Int32) (x6 : Int32) (y1 : Int32) (y2 : Int32) (h : XH) : Option (Unit × XH) := (if 0 ≤ y1 ∧ y1 < nI 1536 then (if 0 ≤ x2 ∧ x2 < nI 144 then (if ¬ x3 = (-1) then (if 0 ≤ ((128 * x3) + x5) ∧ ((128 * x3) + x5) < nI 1536 then (b_m_flatten_109 K20 x1 x2 x3 x4 x5 x6 (hi h 1279 (Int32.toNatClampNeg x2)) (hi h 1282 (Int32.toNatClampNeg ((128 * x3) + x5))) (hsi h 1281 (Int32.toNatClampNeg y1) y2)) else none) else (b_m_flatten_109 K20 x1 x2 x3 x4 x5 x6 (hi h 1279 (Int32.toNatClampNeg x2)) 0 (hsi h 1281 (Int32.toNatClampNeg y1) y2))) else none) else none)
set_option maxRecDepth 20000 in
theorem kb_m_flatten_74 {l : Launch} {G : XG} {d : Nat} {K20 : Int32 → Int32 → Int32 → Int32 → Int32 → XH → Option (Unit × XH)} {x1 : Int32} {x2 : Int32} {x3 : Int32} {x4 : Int32} {x5 : Int32} {x6 : Int32} {y1 : Int32} {y2 : Int32} {h : XH} {r : Unit × XH} (hK20 : ∀ (x1 : Int32) (x2 : Int32) (x3 : Int32) (x4 : Int32) (x5 : Int32) (h : XH), LY h → K20 x1 x2 x3 x4 x5 h = some r → XR l G xEX12_flatten d (20, [some (.ref 1262), some (.int x1), some (.int x2), some (.int x3), some (.int x4), some (.int x5), none], [], h) (fun C => ∃ v, xRet xEX12_flatten C v ∧ (C.2.2.2 = r.2 ∧ v = none) ∧ LY r.2)) (L0 : LY h) (hf : b_m_flatten_74 K20 x1 x2 x3 x4 x5 x6 y1 y2 h = some r) : XR l G xEX12_flatten d (74, [some (.ref 1262), some (.int x1), some (.int x2), some (.int x3), some (.int x4), some (.int x5), some (.int x6)], [(.int y2), (.int y1), (.ref 1281)], h) (fun C => ∃ v, xRet xEX12_flatten C v ∧ (C.2.2.2 = r.2 ∧ v = none) ∧ LY r.2) := by
  unfold b_m_flatten_74 at hf
  by_cases qk3 : 0 ≤ y1 ∧ y1 < nI 1536
  rotate_left
  · rw [if_neg qk3] at hf; cases hf
  rw [if_pos qk3] at hf
  refine XS.go (s_iast rfl (LY.lt L0 (by decide)) (LY.k1281 L0) (inLit (LY.n1281 L0) qk3.1 qk3.2 (by decide))) ?_
  refine XS.go (s_aloadn rfl rfl rfl) ?_
  refine XS.go (s_getr rfl xf12_67 (LY.lt (by simp only [LY_si, LY_sj]; exact L0) (by decide)) (LY.k1262 (by simp only [LY_si, LY_sj]; exact L0)) (by decide) rfl (LY.r1262_30 (by simp only [LY_si, LY_sj]; exact L0))) ?_
  refine XS.go (s_iload rfl rfl) ?_
  refine XS.go (s_aloadn rfl rfl rfl) ?_
  refine XS.go (s_getr rfl xf12_58 (LY.lt (by simp only [LY_si, LY_sj]; exact L0) (by decide)) (LY.k1262 (by simp only [LY_si, LY_sj]; exact L0)) (by decide) rfl (LY.r1262_27 (by simp only [LY_si, LY_sj]; exact L0))) ?_
  refine XS.go (s_iloadn rfl rfl rfl) ?_
  by_cases qk4 : 0 ≤ x2 ∧ x2 < nI 144
  rotate_left
  · rw [if_neg qk4] at hf; cases hf
  rw [if_pos qk4] at hf
  refine XS.go (s_ialde rfl (LY.lt (by simp only [LY_si, LY_sj]; exact L0) (by decide)) (LY.k1279 (by simp only [LY_si, LY_sj]; exact L0)) (inLit (LY.n1279 (by simp only [LY_si, LY_sj]; exact L0)) qk4.1 qk4.2 (by decide)) (hi_hsi_na (by decide))) ?_
  refine XS.go (s_iloadn rfl rfl rfl) ?_
  refine XS.go (s_iconst (v := (-1)) rfl rfl) ?_
  refine r_icmp_ne (tgt := 96) rfl rfl (fun qc5 => ?_) (fun qc5 => ?_)
  · rw [if_pos qc5] at hf
    refine XS.go (s_aloadn rfl rfl rfl) ?_
    refine XS.go (s_getr rfl xf12_67 (LY.lt (by simp only [LY_si, LY_sj]; exact L0) (by decide)) (LY.k1262 (by simp only [LY_si, LY_sj]; exact L0)) (by decide) rfl (LY.r1262_30 (by simp only [LY_si, LY_sj]; exact L0))) ?_
    refine XS.go (s_sipush (v := 128) rfl rfl) ?_
    refine XS.go (s_iloadn rfl rfl rfl) ?_
    refine XS.go (s_imul rfl) ?_
    refine XS.go (s_iload rfl rfl) ?_
    refine XS.go (s_iadd rfl) ?_
    by_cases qk6 : 0 ≤ ((128 * x3) + x5) ∧ ((128 * x3) + x5) < nI 1536
    rotate_left
    · rw [if_neg qk6] at hf; cases hf
    rw [if_pos qk6] at hf
    refine XS.go (s_ialde rfl (LY.lt (by simp only [LY_si, LY_sj]; exact L0) (by decide)) (LY.k1282 (by simp only [LY_si, LY_sj]; exact L0)) (inLit (LY.n1282 (by simp only [LY_si, LY_sj]; exact L0)) qk6.1 qk6.2 (by decide)) (hi_hsi_na (by decide))) ?_
    exact XR.forget (L2 := [some (.ref 1262), some (.int x1), some (.int x2), some (.int x3), some (.int x4), some (.int x5), none]) ⟨rfl, ⟨rfl, ⟨rfl, ⟨rfl, ⟨rfl, ⟨rfl, trivial⟩⟩⟩⟩⟩⟩ (kb_m_flatten_109 hK20 (by simp only [LY_si, LY_sj]; exact L0) hf)
  · rw [if_neg qc5] at hf
    refine XS.go (s_iconst (v := 0) rfl rfl) ?_
    refine XS.go (s_goto (tgt := 109) rfl rfl) ?_
    exact XR.forget (L2 := [some (.ref 1262), some (.int x1), some (.int x2), some (.int x3), some (.int x4), some (.int x5), none]) ⟨rfl, ⟨rfl, ⟨rfl, ⟨rfl, ⟨rfl, ⟨rfl, trivial⟩⟩⟩⟩⟩⟩ (kb_m_flatten_109 hK20 (by simp only [LY_si, LY_sj]; exact L0) hf)
def s_m_flatten_20 (K20 : Int32 → Int32 → Int32 → Int32 → Int32 → XH → Option (Unit × XH)) (x1 : Int32) (x2 : Int32) (x3 : Int32) (x4 : Int32) (x5 : Int32) (h : XH) : Option (Unit × XH) := (if x4 ≤ x5 then (some ((), h)) else (if 0 ≤ x1 ∧ x1 < nI 12 then (if ¬ x3 = (-1) then (if 0 ≤ ((128 * x3) + x5) ∧ ((128 * x3) + x5) < nI 1536 then (b_m_flatten_74 K20 x1 x2 x3 x4 x5 ((128 * x1) + (hi h 1280 (Int32.toNatClampNeg x1))) ((128 * x1) + (hi h 1280 (Int32.toNatClampNeg x1))) (hi h 1281 (Int32.toNatClampNeg ((128 * x3) + x5))) h) else none) else (if 0 ≤ x2 ∧ x2 < nI 144 then (b_m_flatten_74 K20 x1 x2 x3 x4 x5 ((128 * x1) + (hi h 1280 (Int32.toNatClampNeg x1))) ((128 * x1) + (hi h 1280 (Int32.toNatClampNeg x1))) (hi h 1278 (Int32.toNatClampNeg x2)) h) else none)) else none))
set_option maxRecDepth 20000 in
theorem ks_m_flatten_20 {l : Launch} {G : XG} {d : Nat} {K20 : Int32 → Int32 → Int32 → Int32 → Int32 → XH → Option (Unit × XH)} {x1 : Int32} {x2 : Int32} {x3 : Int32} {x4 : Int32} {x5 : Int32} {h : XH} {r : Unit × XH} (hK20 : ∀ (x1 : Int32) (x2 : Int32) (x3 : Int32) (x4 : Int32) (x5 : Int32) (h : XH), LY h → K20 x1 x2 x3 x4 x5 h = some r → XR l G xEX12_flatten d (20, [some (.ref 1262), some (.int x1), some (.int x2), some (.int x3), some (.int x4), some (.int x5), none], [], h) (fun C => ∃ v, xRet xEX12_flatten C v ∧ (C.2.2.2 = r.2 ∧ v = none) ∧ LY r.2)) (L0 : LY h) (hf : s_m_flatten_20 K20 x1 x2 x3 x4 x5 h = some r) : XR l G xEX12_flatten d (20, [some (.ref 1262), some (.int x1), some (.int x2), some (.int x3), some (.int x4), some (.int x5), none], [], h) (fun C => ∃ v, xRet xEX12_flatten C v ∧ (C.2.2.2 = r.2 ∧ v = none) ∧ LY r.2) := by
  unfold s_m_flatten_20 at hf
  refine XS.go (s_iload rfl rfl) ?_
  refine XS.go (s_iload rfl rfl) ?_
  refine r_icmp_ge (tgt := 127) rfl rfl (fun qc7 => ?_) (fun qc7 => ?_)
  · rw [if_pos qc7] at hf
    cases hf
    exact XR.retv rfl rfl (fun hret => ⟨_, hret, ⟨rfl, rfl⟩, L0⟩)
  · rw [if_neg qc7] at hf
    refine XS.go (s_sipush (v := 128) rfl rfl) ?_
    refine XS.go (s_iloadn rfl rfl rfl) ?_
    refine XS.go (s_imul rfl) ?_
    refine XS.go (s_aloadn rfl rfl rfl) ?_
    refine XS.go (s_getr rfl xf12_61 (LY.lt L0 (by decide)) (LY.k1262 L0) (by decide) rfl (LY.r1262_28 L0)) ?_
    refine XS.go (s_iloadn rfl rfl rfl) ?_
    by_cases qk8 : 0 ≤ x1 ∧ x1 < nI 12
    rotate_left
    · rw [if_neg qk8] at hf; cases hf
    rw [if_pos qk8] at hf
    refine XS.go (s_ialde rfl (LY.lt L0 (by decide)) (LY.k1280 L0) (inLit (LY.n1280 L0) qk8.1 qk8.2 (by decide)) rfl) ?_
    refine XS.go (s_iadd rfl) ?_
    refine XS.go (s_istore rfl (Nat.le_of_ble_eq_true rfl)) ?_
    refine XS.go (s_aloadn rfl rfl rfl) ?_
    refine XS.go (s_getr rfl xf12_64 (LY.lt L0 (by decide)) (LY.k1262 L0) (by decide) rfl (LY.r1262_29 L0)) ?_
    refine XS.go (s_iload rfl rfl) ?_
    refine XS.go (s_iloadn rfl rfl rfl) ?_
    refine XS.go (s_iconst (v := (-1)) rfl rfl) ?_
    refine r_icmp_ne (tgt := 61) rfl rfl (fun qc9 => ?_) (fun qc9 => ?_)
    · rw [if_pos qc9] at hf
      refine XS.go (s_aloadn rfl rfl rfl) ?_
      refine XS.go (s_getr rfl xf12_64 (LY.lt L0 (by decide)) (LY.k1262 L0) (by decide) rfl (LY.r1262_29 L0)) ?_
      refine XS.go (s_sipush (v := 128) rfl rfl) ?_
      refine XS.go (s_iloadn rfl rfl rfl) ?_
      refine XS.go (s_imul rfl) ?_
      refine XS.go (s_iload rfl rfl) ?_
      refine XS.go (s_iadd rfl) ?_
      by_cases qk10 : 0 ≤ ((128 * x3) + x5) ∧ ((128 * x3) + x5) < nI 1536
      rotate_left
      · rw [if_neg qk10] at hf; cases hf
      rw [if_pos qk10] at hf
      refine XS.go (s_ialde rfl (LY.lt L0 (by decide)) (LY.k1281 L0) (inLit (LY.n1281 L0) qk10.1 qk10.2 (by decide)) rfl) ?_
      exact XR.forget (L2 := [some (.ref 1262), some (.int x1), some (.int x2), some (.int x3), some (.int x4), some (.int x5), some (.int ((128 * x1) + (hi h 1280 (Int32.toNatClampNeg x1))))]) ⟨rfl, ⟨rfl, ⟨rfl, ⟨rfl, ⟨rfl, ⟨rfl, ⟨rfl, trivial⟩⟩⟩⟩⟩⟩⟩ (kb_m_flatten_74 hK20 L0 hf)
    · rw [if_neg qc9] at hf
      refine XS.go (s_aloadn rfl rfl rfl) ?_
      refine XS.go (s_getr rfl xf12_55 (LY.lt L0 (by decide)) (LY.k1262 L0) (by decide) rfl (LY.r1262_26 L0)) ?_
      refine XS.go (s_iloadn rfl rfl rfl) ?_
      by_cases qk11 : 0 ≤ x2 ∧ x2 < nI 144
      rotate_left
      · rw [if_neg qk11] at hf; cases hf
      rw [if_pos qk11] at hf
      refine XS.go (s_ialde rfl (LY.lt L0 (by decide)) (LY.k1278 L0) (inLit (LY.n1278 L0) qk11.1 qk11.2 (by decide)) rfl) ?_
      refine XS.go (s_goto (tgt := 74) rfl rfl) ?_
      exact XR.forget (L2 := [some (.ref 1262), some (.int x1), some (.int x2), some (.int x3), some (.int x4), some (.int x5), some (.int ((128 * x1) + (hi h 1280 (Int32.toNatClampNeg x1))))]) ⟨rfl, ⟨rfl, ⟨rfl, ⟨rfl, ⟨rfl, ⟨rfl, ⟨rfl, trivial⟩⟩⟩⟩⟩⟩⟩ (kb_m_flatten_74 hK20 L0 hf)
def b_m_flatten_20 : Nat → Int32 → Int32 → Int32 → Int32 → Int32 → XH → Option (Unit × XH)
  | 0, _, _, _, _, _, _ => none
  | n + 1, x1, x2, x3, x4, x5, h => s_m_flatten_20 (b_m_flatten_20 n) x1 x2 x3 x4 x5 h
theorem kb_m_flatten_20 {l : Launch} {G : XG} {d : Nat} {n : Nat} {x1 : Int32} {x2 : Int32} {x3 : Int32} {x4 : Int32} {x5 : Int32} {h : XH} {r : Unit × XH} (L0 : LY h) (hf : b_m_flatten_20 n x1 x2 x3 x4 x5 h = some r) : XR l G xEX12_flatten d (20, [some (.ref 1262), some (.int x1), some (.int x2), some (.int x3), some (.int x4), some (.int x5), none], [], h) (fun C => ∃ v, xRet xEX12_flatten C v ∧ (C.2.2.2 = r.2 ∧ v = none) ∧ LY r.2) := by
  induction n generalizing x1 x2 x3 x4 x5 h with
  | zero => cases hf
  | succ n ih => exact ks_m_flatten_20 (fun x1 x2 x3 x4 x5 h L0 hf => ih (h := h) (x1 := x1) (x2 := x2) (x3 := x3) (x4 := x4) (x5 := x5) L0 hf) L0 hf
def b_m_flatten_15 (x1 : Int32) (x2 : Int32) (x3 : Int32) (y0 : Int32) (h : XH) : Option (Unit × XH) := (b_m_flatten_20 100000 x1 x2 x3 y0 0 h)
set_option maxRecDepth 20000 in
theorem kb_m_flatten_15 {l : Launch} {G : XG} {d : Nat} {x1 : Int32} {x2 : Int32} {x3 : Int32} {y0 : Int32} {h : XH} {r : Unit × XH} (L0 : LY h) (hf : b_m_flatten_15 x1 x2 x3 y0 h = some r) : XR l G xEX12_flatten d (15, [some (.ref 1262), some (.int x1), some (.int x2), some (.int x3), none, none, none], [(.int y0)], h) (fun C => ∃ v, xRet xEX12_flatten C v ∧ (C.2.2.2 = r.2 ∧ v = none) ∧ LY r.2) := by
  unfold b_m_flatten_15 at hf
  refine XS.go (s_istore rfl (Nat.le_of_ble_eq_true rfl)) ?_
  refine XS.go (s_iconst (v := 0) rfl rfl) ?_
  refine XS.go (s_istore rfl (Nat.le_of_ble_eq_true rfl)) ?_
  exact XR.forget (L2 := [some (.ref 1262), some (.int x1), some (.int x2), some (.int x3), some (.int y0), some (.int 0), none]) ⟨rfl, ⟨rfl, ⟨rfl, ⟨rfl, ⟨rfl, ⟨rfl, trivial⟩⟩⟩⟩⟩⟩ (kb_m_flatten_20 L0 hf)
def f_m_flatten (a0 : Int32) (a1 : Int32) (a2 : Int32) (h : XH) : Option (Unit × XH) := (if ¬ a2 = (-1) then (if 0 ≤ a2 ∧ a2 < nI 12 then (b_m_flatten_15 a0 a1 a2 (hi h 1280 (Int32.toNatClampNeg a2)) h) else none) else (b_m_flatten_15 a0 a1 a2 1 h))
set_option maxRecDepth 20000 in
theorem kf_m_flatten {l : Launch} {G : XG} {d : Nat} {a0 : Int32} {a1 : Int32} {a2 : Int32} {h : XH} {r : Unit × XH} (L0 : LY h) (hf : f_m_flatten a0 a1 a2 h = some r) : XC l G xEX12_flatten d [.ref 1262, .int a0, .int a1, .int a2] h (fun v h2 => (h2 = r.2 ∧ v = none) ∧ LY r.2) := by
  refine XC.virt xvX12_flatten (Nat.le_of_ble_eq_true rfl) ?_
  unfold f_m_flatten at hf
  refine XS.go (s_iloadn rfl rfl rfl) ?_
  refine XS.go (s_iconst (v := (-1)) rfl rfl) ?_
  refine r_icmp_ne (tgt := 9) rfl rfl (fun qc12 => ?_) (fun qc12 => ?_)
  · rw [if_pos qc12] at hf
    refine XS.go (s_aloadn rfl rfl rfl) ?_
    refine XS.go (s_getr rfl xf12_61 (LY.lt L0 (by decide)) (LY.k1262 L0) (by decide) rfl (LY.r1262_28 L0)) ?_
    refine XS.go (s_iloadn rfl rfl rfl) ?_
    by_cases qk13 : 0 ≤ a2 ∧ a2 < nI 12
    rotate_left
    · rw [if_neg qk13] at hf; cases hf
    rw [if_pos qk13] at hf
    refine XS.go (s_ialde rfl (LY.lt L0 (by decide)) (LY.k1280 L0) (inLit (LY.n1280 L0) qk13.1 qk13.2 (by decide)) rfl) ?_
    exact XR.forget (L2 := [some (.ref 1262), some (.int a0), some (.int a1), some (.int a2), none, none, none]) ⟨rfl, ⟨rfl, ⟨rfl, ⟨rfl, trivial⟩⟩⟩⟩ (kb_m_flatten_15 L0 hf)
  · rw [if_neg qc12] at hf
    refine XS.go (s_iconst (v := 1) rfl rfl) ?_
    refine XS.go (s_goto (tgt := 15) rfl rfl) ?_
    exact XR.forget (L2 := [some (.ref 1262), some (.int a0), some (.int a1), some (.int a2), none, none, none]) ⟨rfl, ⟨rfl, ⟨rfl, ⟨rfl, trivial⟩⟩⟩⟩ (kb_m_flatten_15 L0 hf)
def f_m_upTo (a0 : Int32) (a1 : Int32) (h : XH) : Option (Int32 × XH) := (if ¬ a1 = 0 then (some (((((a0 + a1) - 1) / a1) * a1), h)) else none)
set_option maxRecDepth 20000 in
theorem kf_m_upTo {l : Launch} {G : XG} {d : Nat} {a0 : Int32} {a1 : Int32} {h : XH} {r : Int32 × XH} (L0 : LY h) (hf : f_m_upTo a0 a1 h = some r) : XC l G xEX12_upTo d [.int a0, .int a1] h (fun v h2 => (h2 = r.2 ∧ v = some (.int r.1)) ∧ LY r.2) := by
  refine XC.stat xsX12_upTo (Nat.le_of_ble_eq_true rfl) ?_
  unfold f_m_upTo at hf
  refine XS.go (s_iloadn rfl rfl rfl) ?_
  refine XS.go (s_iloadn rfl rfl rfl) ?_
  refine XS.go (s_iadd rfl) ?_
  refine XS.go (s_iconst (v := 1) rfl rfl) ?_
  refine XS.go (s_isub rfl) ?_
  refine XS.go (s_iloadn rfl rfl rfl) ?_
  by_cases qk1 : ¬ a1 = 0
  rotate_left
  · rw [if_neg qk1] at hf; cases hf
  rw [if_pos qk1] at hf
  refine XS.go (s_idiv qk1 rfl) ?_
  refine XS.go (s_iloadn rfl rfl rfl) ?_
  refine XS.go (s_imul rfl) ?_
  cases hf
  exact XR.reti rfl rfl (fun hret => ⟨_, hret, ⟨rfl, rfl⟩, L0⟩)
def b_m_structType_258 (h : XH) : Option (Unit × XH) := (match f_m_take h with | none => none | some r1 => (some ((), r1.2)))
set_option maxRecDepth 20000 in
theorem kb_m_structType_258 {l : Launch} {G : XG} {d : Nat} {h : XH} {r : Unit × XH} (L0 : LY h) (hf : b_m_structType_258 h = some r) : XR l G xEX12_structType (d + 2) (258, [some (.ref 1262), none, none, none, none, none], [], h) (fun C => ∃ v, xRet xEX12_structType C v ∧ (C.2.2.2 = r.2 ∧ v = none) ∧ LY r.2) := by
  unfold b_m_structType_258 at hf
  refine XS.go (s_aloadn rfl rfl rfl) ?_
  rcases e2 : f_m_take h with _ | r1
  · rw [e2] at hf; cases hf
  rw [e2] at hf; dsimp only at hf
  refine r_callv rfl xvX12_take xm12_240 (kf_m_take (d := d) L0 e2) (LY.lt L0 (by decide)) (LY.k1262 L0) (by decide) rfl rfl (by omega) (by decide) (Nat.le_of_ble_eq_true rfl) ?_
  rintro _ _ ⟨⟨rfl, rfl⟩, L3⟩
  cases hf
  exact XR.retv rfl rfl (fun hret => ⟨_, hret, ⟨rfl, rfl⟩, L3⟩)
def b_m_structType_238 (x1 : Int32) (x2 : Int32) (x3 : Int32) (y1 : Int32) (y2 : Int32) (h : XH) : Option (Unit × XH) := (if 0 ≤ y1 ∧ y1 < nI 12 then (if 0 ≤ x1 ∧ x1 < nI 12 then (if 128 < (hi h 1274 (Int32.toNatClampNeg x1)) then (b_m_structType_258 (hsi h 1275 (Int32.toNatClampNeg y1) y2)) else (match f_m_flatten x1 x2 x3 (hsi h 1275 (Int32.toNatClampNeg y1) y2) with | none => none | some r7 => (b_m_structType_258 r7.2))) else none) else none)
set_option maxRecDepth 20000 in
theorem kb_m_structType_238 {l : Launch} {G : XG} {d : Nat} {x1 : Int32} {x2 : Int32} {x3 : Int32} {y1 : Int32} {y2 : Int32} {h : XH} {r : Unit × XH} (L0 : LY h) (hf : b_m_structType_238 x1 x2 x3 y1 y2 h = some r) : XR l G xEX12_structType (d + 2) (238, [some (.ref 1262), some (.int x1), some (.int x2), some (.int x3), none, none], [(.int y2), (.int y1), (.ref 1275)], h) (fun C => ∃ v, xRet xEX12_structType C v ∧ (C.2.2.2 = r.2 ∧ v = none) ∧ LY r.2) := by
  unfold b_m_structType_238 at hf
  by_cases qk4 : 0 ≤ y1 ∧ y1 < nI 12
  rotate_left
  · rw [if_neg qk4] at hf; cases hf
  rw [if_pos qk4] at hf
  refine XS.go (s_iast rfl (LY.lt L0 (by decide)) (LY.k1275 L0) (inLit (LY.n1275 L0) qk4.1 qk4.2 (by decide))) ?_
  refine XS.go (s_aloadn rfl rfl rfl) ?_
  refine XS.go (s_getr rfl xf12_43 (LY.lt (by simp only [LY_si, LY_sj]; exact L0) (by decide)) (LY.k1262 (by simp only [LY_si, LY_sj]; exact L0)) (by decide) rfl (LY.r1262_22 (by simp only [LY_si, LY_sj]; exact L0))) ?_
  refine XS.go (s_iloadn rfl rfl rfl) ?_
  by_cases qk5 : 0 ≤ x1 ∧ x1 < nI 12
  rotate_left
  · rw [if_neg qk5] at hf; cases hf
  rw [if_pos qk5] at hf
  refine XS.go (s_ialde rfl (LY.lt (by simp only [LY_si, LY_sj]; exact L0) (by decide)) (LY.k1274 (by simp only [LY_si, LY_sj]; exact L0)) (inLit (LY.n1274 (by simp only [LY_si, LY_sj]; exact L0)) qk5.1 qk5.2 (by decide)) (hi_hsi_na (by decide))) ?_
  refine XS.go (s_sipush (v := 128) rfl rfl) ?_
  refine r_icmp_gt (tgt := 258) rfl rfl (fun qc6 => ?_) (fun qc6 => ?_)
  · rw [if_pos qc6] at hf
    exact XR.forget (L2 := [some (.ref 1262), none, none, none, none, none]) ⟨rfl, trivial⟩ (kb_m_structType_258 (by simp only [LY_si, LY_sj]; exact L0) hf)
  · rw [if_neg qc6] at hf
    refine XS.go (s_aloadn rfl rfl rfl) ?_
    refine XS.go (s_iloadn rfl rfl rfl) ?_
    refine XS.go (s_iloadn rfl rfl rfl) ?_
    refine XS.go (s_iloadn rfl rfl rfl) ?_
    rcases e8 : f_m_flatten x1 x2 x3 (hsi h 1275 (Int32.toNatClampNeg y1) y2) with _ | r7
    · rw [e8] at hf; cases hf
    rw [e8] at hf; dsimp only at hf
    refine r_callv rfl xvX12_flatten xm12_318 (kf_m_flatten (d := d) (by simp only [LY_si, LY_sj]; exact L0) e8) (LY.lt (by simp only [LY_si, LY_sj]; exact L0) (by decide)) (LY.k1262 (by simp only [LY_si, LY_sj]; exact L0)) (by decide) rfl rfl (by omega) (by decide) (Nat.le_of_ble_eq_true rfl) ?_
    rintro _ _ ⟨⟨rfl, rfl⟩, L9⟩
    exact XR.forget (L2 := [some (.ref 1262), none, none, none, none, none]) ⟨rfl, trivial⟩ (kb_m_structType_258 L9 hf)
def b_m_structType_177 (x1 : Int32) (x2 : Int32) (x3 : Int32) (x4 : Int32) (y0 : Int32) (h : XH) : Option (Unit × XH) := (if 0 ≤ x1 ∧ x1 < nI 12 then (match f_m_upTo (hi h 1274 (Int32.toNatClampNeg x1)) x4 h with | none => none | some r11 => (if 0 ≤ x2 ∧ x2 < nI 144 then (if 0 ≤ x1 ∧ x1 < nI 12 then (if x4 ≤ (hi r11.2 1275 (Int32.toNatClampNeg x1)) then (b_m_structType_238 x1 x2 x3 x1 (hi r11.2 1275 (Int32.toNatClampNeg x1)) (hsi (hsi r11.2 1279 (Int32.toNatClampNeg x2) r11.1) 1274 (Int32.toNatClampNeg x1) (r11.1 + y0))) else (b_m_structType_238 x1 x2 x3 x1 x4 (hsi (hsi r11.2 1279 (Int32.toNatClampNeg x2) r11.1) 1274 (Int32.toNatClampNeg x1) (r11.1 + y0)))) else none) else none)) else none)
set_option maxRecDepth 20000 in
theorem kb_m_structType_177 {l : Launch} {G : XG} {d : Nat} {x1 : Int32} {x2 : Int32} {x3 : Int32} {x4 : Int32} {y0 : Int32} {h : XH} {r : Unit × XH} (L0 : LY h) (hf : b_m_structType_177 x1 x2 x3 x4 y0 h = some r) : XR l G xEX12_structType (d + 2) (177, [some (.ref 1262), some (.int x1), some (.int x2), some (.int x3), some (.int x4), none], [(.int y0)], h) (fun C => ∃ v, xRet xEX12_structType C v ∧ (C.2.2.2 = r.2 ∧ v = none) ∧ LY r.2) := by
  unfold b_m_structType_177 at hf
  refine XS.go (s_istore rfl (Nat.le_of_ble_eq_true rfl)) ?_
  refine XS.go (s_aloadn rfl rfl rfl) ?_
  refine XS.go (s_getr rfl xf12_58 (LY.lt L0 (by decide)) (LY.k1262 L0) (by decide) rfl (LY.r1262_27 L0)) ?_
  refine XS.go (s_iloadn rfl rfl rfl) ?_
  refine XS.go (s_aloadn rfl rfl rfl) ?_
  refine XS.go (s_getr rfl xf12_43 (LY.lt L0 (by decide)) (LY.k1262 L0) (by decide) rfl (LY.r1262_22 L0)) ?_
  refine XS.go (s_iloadn rfl rfl rfl) ?_
  by_cases qk10 : 0 ≤ x1 ∧ x1 < nI 12
  rotate_left
  · rw [if_neg qk10] at hf; cases hf
  rw [if_pos qk10] at hf
  refine XS.go (s_ialde rfl (LY.lt L0 (by decide)) (LY.k1274 L0) (inLit (LY.n1274 L0) qk10.1 qk10.2 (by decide)) rfl) ?_
  refine XS.go (s_iload rfl rfl) ?_
  rcases e12 : f_m_upTo (hi h 1274 (Int32.toNatClampNeg x1)) x4 h with _ | r11
  · rw [e12] at hf; cases hf
  rw [e12] at hf; dsimp only at hf
  refine r_calls rfl xsX12_upTo xm12_309 (kf_m_upTo (d := d) L0 e12) rfl rfl (by omega) (by decide) (Nat.le_of_ble_eq_true rfl) ?_
  rintro _ _ ⟨⟨rfl, rfl⟩, L13⟩
  by_cases qk14 : 0 ≤ x2 ∧ x2 < nI 144
  rotate_left
  · rw [if_neg qk14] at hf; cases hf
  rw [if_pos qk14] at hf
  refine XS.go (s_iast rfl (LY.lt L13 (by decide)) (LY.k1279 L13) (inLit (LY.n1279 L13) qk14.1 qk14.2 (by decide))) ?_
  refine XS.go (s_aloadn rfl rfl rfl) ?_
  refine XS.go (s_getr rfl xf12_43 (LY.lt (by simp only [LY_si, LY_sj]; exact L13) (by decide)) (LY.k1262 (by simp only [LY_si, LY_sj]; exact L13)) (by decide) rfl (LY.r1262_22 (by simp only [LY_si, LY_sj]; exact L13))) ?_
  refine XS.go (s_iloadn rfl rfl rfl) ?_
  refine XS.go (s_aloadn rfl rfl rfl) ?_
  refine XS.go (s_getr rfl xf12_58 (LY.lt (by simp only [LY_si, LY_sj]; exact L13) (by decide)) (LY.k1262 (by simp only [LY_si, LY_sj]; exact L13)) (by decide) rfl (LY.r1262_27 (by simp only [LY_si, LY_sj]; exact L13))) ?_
  refine XS.go (s_iloadn rfl rfl rfl) ?_
  refine XS.go (s_ialde rfl (LY.lt (by simp only [LY_si, LY_sj]; exact L13) (by decide)) (LY.k1279 (by simp only [LY_si, LY_sj]; exact L13)) (inLit (LY.n1279 (by simp only [LY_si, LY_sj]; exact L13)) qk14.1 qk14.2 (by decide)) hi_hsi_eq) ?_
  refine XS.go (s_iload rfl rfl) ?_
  refine XS.go (s_iadd rfl) ?_
  by_cases qk15 : 0 ≤ x1 ∧ x1 < nI 12
  rotate_left
  · rw [if_neg qk15] at hf; cases hf
  rw [if_pos qk15] at hf
  refine XS.go (s_iast rfl (LY.lt (by simp only [LY_si, LY_sj]; exact L13) (by decide)) (LY.k1274 (by simp only [LY_si, LY_sj]; exact L13)) (inLit (LY.n1274 (by simp only [LY_si, LY_sj]; exact L13)) qk15.1 qk15.2 (by decide))) ?_
  refine XS.go (s_aloadn rfl rfl rfl) ?_
  refine XS.go (s_getr rfl xf12_46 (LY.lt (by simp only [LY_si, LY_sj]; exact L13) (by decide)) (LY.k1262 (by simp only [LY_si, LY_sj]; exact L13)) (by decide) rfl (LY.r1262_23 (by simp only [LY_si, LY_sj]; exact L13))) ?_
  refine XS.go (s_iloadn rfl rfl rfl) ?_
  refine XS.go (s_iload rfl rfl) ?_
  refine XS.go (s_aloadn rfl rfl rfl) ?_
  refine XS.go (s_getr rfl xf12_46 (LY.lt (by simp only [LY_si, LY_sj]; exact L13) (by decide)) (LY.k1262 (by simp only [LY_si, LY_sj]; exact L13)) (by decide) rfl (LY.r1262_23 (by simp only [LY_si, LY_sj]; exact L13))) ?_
  refine XS.go (s_iloadn rfl rfl rfl) ?_
  refine XS.go (s_ialde rfl (LY.lt (by simp only [LY_si, LY_sj]; exact L13) (by decide)) (LY.k1275 (by simp only [LY_si, LY_sj]; exact L13)) (inLit (LY.n1275 (by simp only [LY_si, LY_sj]; exact L13)) qk15.1 qk15.2 (by decide)) ((hi_hsi_na (by decide)).trans (hi_hsi_na (by decide)))) ?_
  refine r_icmp_le (tgt := 232) rfl rfl (fun qc16 => ?_) (fun qc16 => ?_)
  · rw [if_pos qc16] at hf
    refine XS.go (s_aloadn rfl rfl rfl) ?_
    refine XS.go (s_getr rfl xf12_46 (LY.lt (by simp only [LY_si, LY_sj]; exact L13) (by decide)) (LY.k1262 (by simp only [LY_si, LY_sj]; exact L13)) (by decide) rfl (LY.r1262_23 (by simp only [LY_si, LY_sj]; exact L13))) ?_
    refine XS.go (s_iloadn rfl rfl rfl) ?_
    refine XS.go (s_ialde rfl (LY.lt (by simp only [LY_si, LY_sj]; exact L13) (by decide)) (LY.k1275 (by simp only [LY_si, LY_sj]; exact L13)) (inLit (LY.n1275 (by simp only [LY_si, LY_sj]; exact L13)) qk15.1 qk15.2 (by decide)) ((hi_hsi_na (by decide)).trans (hi_hsi_na (by decide)))) ?_
    exact XR.forget (L2 := [some (.ref 1262), some (.int x1), some (.int x2), some (.int x3), none, none]) ⟨rfl, ⟨rfl, ⟨rfl, ⟨rfl, trivial⟩⟩⟩⟩ (kb_m_structType_238 (by simp only [LY_si, LY_sj]; exact L13) hf)
  · rw [if_neg qc16] at hf
    refine XS.go (s_iload rfl rfl) ?_
    refine XS.go (s_goto (tgt := 238) rfl rfl) ?_
    exact XR.forget (L2 := [some (.ref 1262), some (.int x1), some (.int x2), some (.int x3), none, none]) ⟨rfl, ⟨rfl, ⟨rfl, ⟨rfl, trivial⟩⟩⟩⟩ (kb_m_structType_238 (by simp only [LY_si, LY_sj]; exact L13) hf)
def b_m_structType_159 (x1 : Int32) (x2 : Int32) (x3 : Int32) (y0 : Int32) (h : XH) : Option (Unit × XH) := (if ¬ x3 = (-1) then (if 0 ≤ x3 ∧ x3 < nI 12 then (b_m_structType_177 x1 x2 x3 y0 (hi h 1274 (Int32.toNatClampNeg x3)) h) else none) else (b_m_structType_177 x1 x2 x3 y0 y0 h))
set_option maxRecDepth 20000 in
theorem kb_m_structType_159 {l : Launch} {G : XG} {d : Nat} {x1 : Int32} {x2 : Int32} {x3 : Int32} {y0 : Int32} {h : XH} {r : Unit × XH} (L0 : LY h) (hf : b_m_structType_159 x1 x2 x3 y0 h = some r) : XR l G xEX12_structType (d + 2) (159, [some (.ref 1262), some (.int x1), some (.int x2), some (.int x3), none, none], [(.int y0)], h) (fun C => ∃ v, xRet xEX12_structType C v ∧ (C.2.2.2 = r.2 ∧ v = none) ∧ LY r.2) := by
  unfold b_m_structType_159 at hf
  refine XS.go (s_istore rfl (Nat.le_of_ble_eq_true rfl)) ?_
  refine XS.go (s_iloadn rfl rfl rfl) ?_
  refine XS.go (s_iconst (v := (-1)) rfl rfl) ?_
  refine r_icmp_ne (tgt := 171) rfl rfl (fun qc17 => ?_) (fun qc17 => ?_)
  · rw [if_pos qc17] at hf
    refine XS.go (s_aloadn rfl rfl rfl) ?_
    refine XS.go (s_getr rfl xf12_43 (LY.lt L0 (by decide)) (LY.k1262 L0) (by decide) rfl (LY.r1262_22 L0)) ?_
    refine XS.go (s_iloadn rfl rfl rfl) ?_
    by_cases qk18 : 0 ≤ x3 ∧ x3 < nI 12
    rotate_left
    · rw [if_neg qk18] at hf; cases hf
    rw [if_pos qk18] at hf
    refine XS.go (s_ialde rfl (LY.lt L0 (by decide)) (LY.k1274 L0) (inLit (LY.n1274 L0) qk18.1 qk18.2 (by decide)) rfl) ?_
    exact XR.forget (L2 := [some (.ref 1262), some (.int x1), some (.int x2), some (.int x3), some (.int y0), none]) ⟨rfl, ⟨rfl, ⟨rfl, ⟨rfl, ⟨rfl, trivial⟩⟩⟩⟩⟩ (kb_m_structType_177 L0 hf)
  · rw [if_neg qc17] at hf
    refine XS.go (s_iload rfl rfl) ?_
    refine XS.go (s_goto (tgt := 177) rfl rfl) ?_
    exact XR.forget (L2 := [some (.ref 1262), some (.int x1), some (.int x2), some (.int x3), some (.int y0), none]) ⟨rfl, ⟨rfl, ⟨rfl, ⟨rfl, ⟨rfl, trivial⟩⟩⟩⟩⟩ (kb_m_structType_177 L0 hf)
def b_m_structType_132 (x1 : Int32) (x2 : Int32) (x3 : Int32) (y1 : Int32) (y2 : Int32) (h : XH) : Option (Unit × XH) := (if 0 ≤ y1 ∧ y1 < nI 144 then (if ¬ x3 = (-1) then (if 0 ≤ x3 ∧ x3 < nI 12 then (b_m_structType_159 x1 x2 x3 (hi h 1275 (Int32.toNatClampNeg x3)) (hsi h 1278 (Int32.toNatClampNeg y1) y2)) else none) else (if 0 ≤ (hi h 1262 13) ∧ (hi h 1262 13) < nI 4001 then (match f_m_bytesOf (hi h 1269 (Int32.toNatClampNeg (hi h 1262 13))) (hsi h 1278 (Int32.toNatClampNeg y1) y2) with | none => none | some r23 => (b_m_structType_159 x1 x2 x3 r23.1 r23.2)) else none)) else none)
set_option maxRecDepth 20000 in
theorem kb_m_structType_132 {l : Launch} {G : XG} {d : Nat} {x1 : Int32} {x2 : Int32} {x3 : Int32} {y1 : Int32} {y2 : Int32} {h : XH} {r : Unit × XH} (L0 : LY h) (hf : b_m_structType_132 x1 x2 x3 y1 y2 h = some r) : XR l G xEX12_structType (d + 2) (132, [some (.ref 1262), some (.int x1), some (.int x2), some (.int x3), none, none], [(.int y2), (.int y1), (.ref 1278)], h) (fun C => ∃ v, xRet xEX12_structType C v ∧ (C.2.2.2 = r.2 ∧ v = none) ∧ LY r.2) := by
  unfold b_m_structType_132 at hf
  by_cases qk19 : 0 ≤ y1 ∧ y1 < nI 144
  rotate_left
  · rw [if_neg qk19] at hf; cases hf
  rw [if_pos qk19] at hf
  refine XS.go (s_iast rfl (LY.lt L0 (by decide)) (LY.k1278 L0) (inLit (LY.n1278 L0) qk19.1 qk19.2 (by decide))) ?_
  refine XS.go (s_iloadn rfl rfl rfl) ?_
  refine XS.go (s_iconst (v := (-1)) rfl rfl) ?_
  refine r_icmp_ne (tgt := 153) rfl rfl (fun qc20 => ?_) (fun qc20 => ?_)
  · rw [if_pos qc20] at hf
    refine XS.go (s_aloadn rfl rfl rfl) ?_
    refine XS.go (s_getr rfl xf12_46 (LY.lt (by simp only [LY_si, LY_sj]; exact L0) (by decide)) (LY.k1262 (by simp only [LY_si, LY_sj]; exact L0)) (by decide) rfl (LY.r1262_23 (by simp only [LY_si, LY_sj]; exact L0))) ?_
    refine XS.go (s_iloadn rfl rfl rfl) ?_
    by_cases qk21 : 0 ≤ x3 ∧ x3 < nI 12
    rotate_left
    · rw [if_neg qk21] at hf; cases hf
    rw [if_pos qk21] at hf
    refine XS.go (s_ialde rfl (LY.lt (by simp only [LY_si, LY_sj]; exact L0) (by decide)) (LY.k1275 (by simp only [LY_si, LY_sj]; exact L0)) (inLit (LY.n1275 (by simp only [LY_si, LY_sj]; exact L0)) qk21.1 qk21.2 (by decide)) (hi_hsi_na (by decide))) ?_
    exact XR.forget (L2 := [some (.ref 1262), some (.int x1), some (.int x2), some (.int x3), none, none]) ⟨rfl, ⟨rfl, ⟨rfl, ⟨rfl, trivial⟩⟩⟩⟩ (kb_m_structType_159 (by simp only [LY_si, LY_sj]; exact L0) hf)
  · rw [if_neg qc20] at hf
    refine XS.go (s_aloadn rfl rfl rfl) ?_
    refine XS.go (s_getr rfl xf12_28 (LY.lt (by simp only [LY_si, LY_sj]; exact L0) (by decide)) (LY.k1262 (by simp only [LY_si, LY_sj]; exact L0)) (by decide) rfl (LY.r1262_11 (by simp only [LY_si, LY_sj]; exact L0))) ?_
    refine XS.go (s_aloadn rfl rfl rfl) ?_
    refine XS.go (s_getie rfl xf12_224 (LY.lt (by simp only [LY_si, LY_sj]; exact L0) (by decide)) (LY.k1262 (by simp only [LY_si, LY_sj]; exact L0)) (by decide) rfl (hi_hsi_na (by decide))) ?_
    by_cases qk22 : 0 ≤ (hi h 1262 13) ∧ (hi h 1262 13) < nI 4001
    rotate_left
    · rw [if_neg qk22] at hf; cases hf
    rw [if_pos qk22] at hf
    refine XS.go (s_ialde rfl (LY.lt (by simp only [LY_si, LY_sj]; exact L0) (by decide)) (LY.k1269 (by simp only [LY_si, LY_sj]; exact L0)) (inLit (LY.n1269 (by simp only [LY_si, LY_sj]; exact L0)) qk22.1 qk22.2 (by decide)) (hi_hsi_na (by decide))) ?_
    rcases e24 : f_m_bytesOf (hi h 1269 (Int32.toNatClampNeg (hi h 1262 13))) (hsi h 1278 (Int32.toNatClampNeg y1) y2) with _ | r23
    · rw [e24] at hf; cases hf
    rw [e24] at hf; dsimp only at hf
    refine r_calls rfl xsX12_bytesOf xm12_315 (kf_m_bytesOf (d := d) (by simp only [LY_si, LY_sj]; exact L0) e24) rfl rfl (by omega) (by decide) (Nat.le_of_ble_eq_true rfl) ?_
    rintro _ _ ⟨⟨rfl, rfl⟩, L25⟩
    refine XS.go (s_goto (tgt := 159) rfl rfl) ?_
    exact XR.forget (L2 := [some (.ref 1262), some (.int x1), some (.int x2), some (.int x3), none, none]) ⟨rfl, ⟨rfl, ⟨rfl, ⟨rfl, trivial⟩⟩⟩⟩ (kb_m_structType_159 L25 hf)
def b_m_structType_108 (x1 : Int32) (x2 : Int32) (x3 : Int32) (y1 : Int32) (y2 : Int32) (h : XH) : Option (Unit × XH) := (if 0 ≤ y1 ∧ y1 < nI 144 then (if ¬ x3 = (-1) then (b_m_structType_132 x1 x2 x3 x2 x3 (hsi h 1277 (Int32.toNatClampNeg y1) y2)) else (if 0 ≤ (hi h 1262 13) ∧ (hi h 1262 13) < nI 4001 then (b_m_structType_132 x1 x2 x3 x2 (hi h 1269 (Int32.toNatClampNeg (hi h 1262 13))) (hsi h 1277 (Int32.toNatClampNeg y1) y2)) else none)) else none)
set_option maxRecDepth 20000 in
theorem kb_m_structType_108 {l : Launch} {G : XG} {d : Nat} {x1 : Int32} {x2 : Int32} {x3 : Int32} {y1 : Int32} {y2 : Int32} {h : XH} {r : Unit × XH} (L0 : LY h) (hf : b_m_structType_108 x1 x2 x3 y1 y2 h = some r) : XR l G xEX12_structType (d + 2) (108, [some (.ref 1262), some (.int x1), some (.int x2), some (.int x3), none, none], [(.int y2), (.int y1), (.ref 1277)], h) (fun C => ∃ v, xRet xEX12_structType C v ∧ (C.2.2.2 = r.2 ∧ v = none) ∧ LY r.2) := by
  unfold b_m_structType_108 at hf
  by_cases qk26 : 0 ≤ y1 ∧ y1 < nI 144
  rotate_left
  · rw [if_neg qk26] at hf; cases hf
  rw [if_pos qk26] at hf
  refine XS.go (s_iast rfl (LY.lt L0 (by decide)) (LY.k1277 L0) (inLit (LY.n1277 L0) qk26.1 qk26.2 (by decide))) ?_
  refine XS.go (s_aloadn rfl rfl rfl) ?_
  refine XS.go (s_getr rfl xf12_55 (LY.lt (by simp only [LY_si, LY_sj]; exact L0) (by decide)) (LY.k1262 (by simp only [LY_si, LY_sj]; exact L0)) (by decide) rfl (LY.r1262_26 (by simp only [LY_si, LY_sj]; exact L0))) ?_
  refine XS.go (s_iloadn rfl rfl rfl) ?_
  refine XS.go (s_iloadn rfl rfl rfl) ?_
  refine XS.go (s_iconst (v := (-1)) rfl rfl) ?_
  refine r_icmp_ne (tgt := 131) rfl rfl (fun qc27 => ?_) (fun qc27 => ?_)
  · rw [if_pos qc27] at hf
    refine XS.go (s_iloadn rfl rfl rfl) ?_
    exact XR.forget (L2 := [some (.ref 1262), some (.int x1), some (.int x2), some (.int x3), none, none]) ⟨rfl, ⟨rfl, ⟨rfl, ⟨rfl, trivial⟩⟩⟩⟩ (kb_m_structType_132 (by simp only [LY_si, LY_sj]; exact L0) hf)
  · rw [if_neg qc27] at hf
    refine XS.go (s_aloadn rfl rfl rfl) ?_
    refine XS.go (s_getr rfl xf12_28 (LY.lt (by simp only [LY_si, LY_sj]; exact L0) (by decide)) (LY.k1262 (by simp only [LY_si, LY_sj]; exact L0)) (by decide) rfl (LY.r1262_11 (by simp only [LY_si, LY_sj]; exact L0))) ?_
    refine XS.go (s_aloadn rfl rfl rfl) ?_
    refine XS.go (s_getie rfl xf12_224 (LY.lt (by simp only [LY_si, LY_sj]; exact L0) (by decide)) (LY.k1262 (by simp only [LY_si, LY_sj]; exact L0)) (by decide) rfl (hi_hsi_na (by decide))) ?_
    by_cases qk28 : 0 ≤ (hi h 1262 13) ∧ (hi h 1262 13) < nI 4001
    rotate_left
    · rw [if_neg qk28] at hf; cases hf
    rw [if_pos qk28] at hf
    refine XS.go (s_ialde rfl (LY.lt (by simp only [LY_si, LY_sj]; exact L0) (by decide)) (LY.k1269 (by simp only [LY_si, LY_sj]; exact L0)) (inLit (LY.n1269 (by simp only [LY_si, LY_sj]; exact L0)) qk28.1 qk28.2 (by decide)) (hi_hsi_na (by decide))) ?_
    refine XS.go (s_goto (tgt := 132) rfl rfl) ?_
    exact XR.forget (L2 := [some (.ref 1262), some (.int x1), some (.int x2), some (.int x3), none, none]) ⟨rfl, ⟨rfl, ⟨rfl, ⟨rfl, trivial⟩⟩⟩⟩ (kb_m_structType_132 (by simp only [LY_si, LY_sj]; exact L0) hf)
def b_m_structType_93 (x1 : Int32) (x2 : Int32) (x3 : Int32) (h : XH) : Option (Unit × XH) := (if ¬ x3 = (-1) then (b_m_structType_108 x1 x2 x3 x2 2 h) else (b_m_structType_108 x1 x2 x3 x2 0 h))
set_option maxRecDepth 20000 in
theorem kb_m_structType_93 {l : Launch} {G : XG} {d : Nat} {x1 : Int32} {x2 : Int32} {x3 : Int32} {h : XH} {r : Unit × XH} (L0 : LY h) (hf : b_m_structType_93 x1 x2 x3 h = some r) : XR l G xEX12_structType (d + 2) (93, [some (.ref 1262), some (.int x1), some (.int x2), some (.int x3), none, none], [], h) (fun C => ∃ v, xRet xEX12_structType C v ∧ (C.2.2.2 = r.2 ∧ v = none) ∧ LY r.2) := by
  unfold b_m_structType_93 at hf
  refine XS.go (s_aloadn rfl rfl rfl) ?_
  refine XS.go (s_getr rfl xf12_52 (LY.lt L0 (by decide)) (LY.k1262 L0) (by decide) rfl (LY.r1262_25 L0)) ?_
  refine XS.go (s_iloadn rfl rfl rfl) ?_
  refine XS.go (s_iloadn rfl rfl rfl) ?_
  refine XS.go (s_iconst (v := (-1)) rfl rfl) ?_
  refine r_icmp_ne (tgt := 107) rfl rfl (fun qc29 => ?_) (fun qc29 => ?_)
  · rw [if_pos qc29] at hf
    refine XS.go (s_iconst (v := 2) rfl rfl) ?_
    exact XR.forget (L2 := [some (.ref 1262), some (.int x1), some (.int x2), some (.int x3), none, none]) ⟨rfl, ⟨rfl, ⟨rfl, ⟨rfl, trivial⟩⟩⟩⟩ (kb_m_structType_108 L0 hf)
  · rw [if_neg qc29] at hf
    refine XS.go (s_iconst (v := 0) rfl rfl) ?_
    refine XS.go (s_goto (tgt := 108) rfl rfl) ?_
    exact XR.forget (L2 := [some (.ref 1262), some (.int x1), some (.int x2), some (.int x3), none, none]) ⟨rfl, ⟨rfl, ⟨rfl, ⟨rfl, trivial⟩⟩⟩⟩ (kb_m_structType_108 L0 hf)
def b_m_structType_66 (x1 : Int32) (x2 : Int32) (y0 : Int32) (h : XH) : Option (Unit × XH) := (if ¬ y0 = (-1) then (b_m_structType_93 x1 x2 y0 h) else (match f_m_flaw 5 h with | none => none | some r31 => (some ((), r31.2))))
set_option maxRecDepth 20000 in
theorem kb_m_structType_66 {l : Launch} {G : XG} {d : Nat} {x1 : Int32} {x2 : Int32} {y0 : Int32} {h : XH} {r : Unit × XH} (L0 : LY h) (hf : b_m_structType_66 x1 x2 y0 h = some r) : XR l G xEX12_structType (d + 2) (66, [some (.ref 1262), some (.int x1), some (.int x2), none, none, none], [(.int y0)], h) (fun C => ∃ v, xRet xEX12_structType C v ∧ (C.2.2.2 = r.2 ∧ v = none) ∧ LY r.2) := by
  unfold b_m_structType_66 at hf
  refine XS.go (s_istoren rfl rfl (Nat.le_of_ble_eq_true rfl)) ?_
  refine XS.go (s_iloadn rfl rfl rfl) ?_
  refine XS.go (s_iconst (v := (-1)) rfl rfl) ?_
  refine r_icmp_ne (tgt := 78) rfl rfl (fun qc30 => ?_) (fun qc30 => ?_)
  · rw [if_pos qc30] at hf
    refine XS.go (s_goto (tgt := 93) rfl rfl) ?_
    exact XR.forget (L2 := [some (.ref 1262), some (.int x1), some (.int x2), some (.int y0), none, none]) ⟨rfl, ⟨rfl, ⟨rfl, ⟨rfl, trivial⟩⟩⟩⟩ (kb_m_structType_93 L0 hf)
  · rw [if_neg qc30] at hf
    refine XS.go (s_aloadn rfl rfl rfl) ?_
    refine XS.go (s_iconst (v := 5) rfl rfl) ?_
    rcases e32 : f_m_flaw 5 h with _ | r31
    · rw [e32] at hf; cases hf
    rw [e32] at hf; dsimp only at hf
    refine r_callv rfl xvX12_flaw xm12_230 (kf_m_flaw (d := d) L0 e32) (LY.lt L0 (by decide)) (LY.k1262 L0) (by decide) rfl rfl (by omega) (by decide) (Nat.le_of_ble_eq_true rfl) ?_
    rintro _ _ ⟨⟨rfl, rfl⟩, L33⟩
    cases hf
    exact XR.retv rfl rfl (fun hret => ⟨_, hret, ⟨rfl, rfl⟩, L33⟩)
def b_m_structType_65 (x1 : Int32) (x2 : Int32) (h : XH) : Option (Unit × XH) := (b_m_structType_66 x1 x2 (-1) h)
set_option maxRecDepth 20000 in
theorem kb_m_structType_65 {l : Launch} {G : XG} {d : Nat} {x1 : Int32} {x2 : Int32} {h : XH} {r : Unit × XH} (L0 : LY h) (hf : b_m_structType_65 x1 x2 h = some r) : XR l G xEX12_structType (d + 2) (65, [some (.ref 1262), some (.int x1), some (.int x2), none, none, none], [], h) (fun C => ∃ v, xRet xEX12_structType C v ∧ (C.2.2.2 = r.2 ∧ v = none) ∧ LY r.2) := by
  unfold b_m_structType_65 at hf
  refine XS.go (s_iconst (v := (-1)) rfl rfl) ?_
  exact XR.forget (L2 := [some (.ref 1262), some (.int x1), some (.int x2), none, none, none]) ⟨rfl, ⟨rfl, ⟨rfl, trivial⟩⟩⟩ (kb_m_structType_66 L0 hf)
def f_m_structType (a0 : Int32) (a1 : Int32) (h : XH) : Option (Unit × XH) := (if (hi h 1262 14) = 0 then (match f_m_isName h with | none => none | some r35 => (if r35.1 = 0 then (match f_m_isScalar r35.2 with | none => none | some r39 => (if ¬ r39.1 = 0 then (b_m_structType_93 a0 a1 (-1) r39.2) else (match f_m_misfit r39.2 with | none => none | some r43 => (some ((), r43.2))))) else (match f_m_definition (hi r35.2 1262 13) r35.2 with | none => none | some r46 => (if r46.1 = (-1) then (b_m_structType_65 a0 a1 r46.2) else (if 0 ≤ r46.1 ∧ r46.1 < nI 40 then (if ¬ (hi r46.2 1271 (Int32.toNatClampNeg r46.1)) = 2 then (b_m_structType_65 a0 a1 r46.2) else (if a0 ≤ (hi r46.2 1272 (Int32.toNatClampNeg r46.1)) then (b_m_structType_65 a0 a1 r46.2) else (b_m_structType_66 a0 a1 (hi r46.2 1272 (Int32.toNatClampNeg r46.1)) r46.2))) else none))))) else (some ((), h)))
set_option maxRecDepth 20000 in
theorem kf_m_structType {l : Launch} {G : XG} {d : Nat} {a0 : Int32} {a1 : Int32} {h : XH} {r : Unit × XH} (L0 : LY h) (hf : f_m_structType a0 a1 h = some r) : XC l G xEX12_structType (d + 2) [.ref 1262, .int a0, .int a1] h (fun v h2 => (h2 = r.2 ∧ v = none) ∧ LY r.2) := by
  refine XC.virt xvX12_structType (Nat.le_of_ble_eq_true rfl) ?_
  unfold f_m_structType at hf
  refine XS.go (s_aloadn rfl rfl rfl) ?_
  refine XS.go (s_getie rfl xf12_221 (LY.lt L0 (by decide)) (LY.k1262 L0) (by decide) rfl rfl) ?_
  refine r_if_eq (tgt := 8) rfl rfl (fun qc34 => ?_) (fun qc34 => ?_)
  · rw [if_pos qc34] at hf
    refine XS.go (s_iconst (v := (-1)) rfl rfl) ?_
    refine XS.go (s_istoren rfl rfl (Nat.le_of_ble_eq_true rfl)) ?_
    refine XS.go (s_aloadn rfl rfl rfl) ?_
    rcases e36 : f_m_isName h with _ | r35
    · rw [e36] at hf; cases hf
    rw [e36] at hf; dsimp only at hf
    refine r_callv rfl xvX12_isName xm12_243 (kf_m_isName (d := d) L0 e36) (LY.lt L0 (by decide)) (LY.k1262 L0) (by decide) rfl rfl (by omega) (by decide) (Nat.le_of_ble_eq_true rfl) ?_
    rintro _ _ ⟨⟨rfl, rfl⟩, L37⟩
    refine r_if_eq (tgt := 81) rfl rfl (fun qc38 => ?_) (fun qc38 => ?_)
    · rw [if_pos qc38] at hf
      refine XS.go (s_aloadn rfl rfl rfl) ?_
      rcases e40 : f_m_isScalar r35.2 with _ | r39
      · rw [e40] at hf; cases hf
      rw [e40] at hf; dsimp only at hf
      refine r_callv rfl xvX12_isScalar xm12_312 (kf_m_isScalar (d := d) L37 e40) (LY.lt L37 (by decide)) (LY.k1262 L37) (by decide) rfl rfl (by omega) (by decide) (Nat.le_of_ble_eq_true rfl) ?_
      rintro _ _ ⟨⟨rfl, rfl⟩, L41⟩
      refine r_if_ne (tgt := 93) rfl rfl (fun qc42 => ?_) (fun qc42 => ?_)
      · rw [if_pos qc42] at hf
        exact XR.forget (L2 := [some (.ref 1262), some (.int a0), some (.int a1), some (.int (-1)), none, none]) ⟨rfl, ⟨rfl, ⟨rfl, ⟨rfl, trivial⟩⟩⟩⟩ (kb_m_structType_93 L41 hf)
      · rw [if_neg qc42] at hf
        refine XS.go (s_aloadn rfl rfl rfl) ?_
        rcases e44 : f_m_misfit r39.2 with _ | r43
        · rw [e44] at hf; cases hf
        rw [e44] at hf; dsimp only at hf
        refine r_callv rfl xvX12_misfit xm12_237 (kf_m_misfit (d := d) L41 e44) (LY.lt L41 (by decide)) (LY.k1262 L41) (by decide) rfl rfl (by omega) (by decide) (Nat.le_of_ble_eq_true rfl) ?_
        rintro _ _ ⟨⟨rfl, rfl⟩, L45⟩
        cases hf
        exact XR.retv rfl rfl (fun hret => ⟨_, hret, ⟨rfl, rfl⟩, L45⟩)
    · rw [if_neg qc38] at hf
      refine XS.go (s_aloadn rfl rfl rfl) ?_
      refine XS.go (s_aloadn rfl rfl rfl) ?_
      refine XS.go (s_getie rfl xf12_224 (LY.lt L37 (by decide)) (LY.k1262 L37) (by decide) rfl rfl) ?_
      rcases e47 : f_m_definition (hi r35.2 1262 13) r35.2 with _ | r46
      · rw [e47] at hf; cases hf
      rw [e47] at hf; dsimp only at hf
      refine r_callv rfl xvX12_definition xm12_289 (kf_m_definition (d := d) L37 e47) (LY.lt L37 (by decide)) (LY.k1262 L37) (by decide) rfl rfl (by omega) (by decide) (Nat.le_of_ble_eq_true rfl) ?_
      rintro _ _ ⟨⟨rfl, rfl⟩, L48⟩
      refine XS.go (s_istore rfl (Nat.le_of_ble_eq_true rfl)) ?_
      refine XS.go (s_iload rfl rfl) ?_
      refine XS.go (s_iconst (v := (-1)) rfl rfl) ?_
      refine r_icmp_eq (tgt := 65) rfl rfl (fun qc49 => ?_) (fun qc49 => ?_)
      · rw [if_pos qc49] at hf
        exact XR.forget (L2 := [some (.ref 1262), some (.int a0), some (.int a1), none, none, none]) ⟨rfl, ⟨rfl, ⟨rfl, trivial⟩⟩⟩ (kb_m_structType_65 L48 hf)
      · rw [if_neg qc49] at hf
        refine XS.go (s_aloadn rfl rfl rfl) ?_
        refine XS.go (s_getr rfl xf12_34 (LY.lt L48 (by decide)) (LY.k1262 L48) (by decide) rfl (LY.r1262_18 L48)) ?_
        refine XS.go (s_iload rfl rfl) ?_
        by_cases qk50 : 0 ≤ r46.1 ∧ r46.1 < nI 40
        rotate_left
        · rw [if_neg qk50] at hf; cases hf
        rw [if_pos qk50] at hf
        refine XS.go (s_ialde rfl (LY.lt L48 (by decide)) (LY.k1271 L48) (inLit (LY.n1271 L48) qk50.1 qk50.2 (by decide)) rfl) ?_
        refine XS.go (s_iconst (v := 2) rfl rfl) ?_
        refine r_icmp_ne (tgt := 65) rfl rfl (fun qc51 => ?_) (fun qc51 => ?_)
        · rw [if_pos qc51] at hf
          exact XR.forget (L2 := [some (.ref 1262), some (.int a0), some (.int a1), none, none, none]) ⟨rfl, ⟨rfl, ⟨rfl, trivial⟩⟩⟩ (kb_m_structType_65 L48 hf)
        · rw [if_neg qc51] at hf
          refine XS.go (s_aloadn rfl rfl rfl) ?_
          refine XS.go (s_getr rfl xf12_37 (LY.lt L48 (by decide)) (LY.k1262 L48) (by decide) rfl (LY.r1262_19 L48)) ?_
          refine XS.go (s_iload rfl rfl) ?_
          refine XS.go (s_ialde rfl (LY.lt L48 (by decide)) (LY.k1272 L48) (inLit (LY.n1272 L48) qk50.1 qk50.2 (by decide)) rfl) ?_
          refine XS.go (s_iloadn rfl rfl rfl) ?_
          refine r_icmp_ge (tgt := 65) rfl rfl (fun qc52 => ?_) (fun qc52 => ?_)
          · rw [if_pos qc52] at hf
            exact XR.forget (L2 := [some (.ref 1262), some (.int a0), some (.int a1), none, none, none]) ⟨rfl, ⟨rfl, ⟨rfl, trivial⟩⟩⟩ (kb_m_structType_65 L48 hf)
          · rw [if_neg qc52] at hf
            refine XS.go (s_aloadn rfl rfl rfl) ?_
            refine XS.go (s_getr rfl xf12_37 (LY.lt L48 (by decide)) (LY.k1262 L48) (by decide) rfl (LY.r1262_19 L48)) ?_
            refine XS.go (s_iload rfl rfl) ?_
            refine XS.go (s_ialde rfl (LY.lt L48 (by decide)) (LY.k1272 L48) (inLit (LY.n1272 L48) qk50.1 qk50.2 (by decide)) rfl) ?_
            refine XS.go (s_goto (tgt := 66) rfl rfl) ?_
            exact XR.forget (L2 := [some (.ref 1262), some (.int a0), some (.int a1), none, none, none]) ⟨rfl, ⟨rfl, ⟨rfl, trivial⟩⟩⟩ (kb_m_structType_66 L48 hf)
  · rw [if_neg qc34] at hf
    cases hf
    exact XR.retv rfl rfl (fun hret => ⟨_, hret, ⟨rfl, rfl⟩, L0⟩)
def b_m_structBody_195 (h : XH) : Option (Unit × XH) := (match f_m_sign 125 h with | none => none | some r1 => (some ((), (hsi r1.2 1262 20 ((hi r1.2 1262 20) + 1)))))
set_option maxRecDepth 20000 in
theorem kb_m_structBody_195 {l : Launch} {G : XG} {d : Nat} {h : XH} {r : Unit × XH} (L0 : LY h) (hf : b_m_structBody_195 h = some r) : XR l G xEX12_structBody (d + 3) (195, [some (.ref 1262), none, none, none, none], [], h) (fun C => ∃ v, xRet xEX12_structBody C v ∧ (C.2.2.2 = r.2 ∧ v = none) ∧ LY r.2) := by
  unfold b_m_structBody_195 at hf
  refine XS.go (s_aloadn rfl rfl rfl) ?_
  refine XS.go (s_bipush (v := 125) rfl rfl) ?_
  rcases e2 : f_m_sign 125 h with _ | r1
  · rw [e2] at hf; cases hf
  rw [e2] at hf; dsimp only at hf
  refine r_callv rfl xvX12_sign xm12_282 (kf_m_sign (d := d) L0 e2) (LY.lt L0 (by decide)) (LY.k1262 L0) (by decide) rfl rfl (by omega) (by decide) (Nat.le_of_ble_eq_true rfl) ?_
  rintro _ _ ⟨⟨rfl, rfl⟩, L3⟩
  refine XS.go (s_aloadn rfl rfl rfl) ?_
  refine XS.go (s_dup rfl rfl) ?_
  refine XS.go (s_getie rfl xf12_254 (LY.lt L3 (by decide)) (LY.k1262 L3) (by decide) rfl rfl) ?_
  refine XS.go (s_iconst (v := 1) rfl rfl) ?_
  refine XS.go (s_iadd rfl) ?_
  refine XS.go (s_puti rfl xf12_254 (LY.lt L3 (by decide)) (LY.k1262 L3) (by decide) rfl (Or.inl rfl)) ?_
  cases hf
  exact XR.retv rfl rfl (fun hret => ⟨_, hret, ⟨rfl, rfl⟩, (by simp only [LY_si, LY_sj]; exact L3)⟩)
def b_m_structBody_149 (x1 : Int32) (h : XH) : Option (Unit × XH) := (if ¬ (hi h 1262 14) = 0 then (b_m_structBody_195 h) else (if 0 ≤ x1 ∧ x1 < nI 12 then (match f_m_upTo (hi h 1274 (Int32.toNatClampNeg x1)) (hi h 1275 (Int32.toNatClampNeg x1)) h with | none => none | some r6 => (if 0 ≤ x1 ∧ x1 < nI 12 then (if r6.1 ≤ 128 then (b_m_structBody_195 (hsi r6.2 1274 (Int32.toNatClampNeg x1) r6.1)) else (match f_m_flaw 8 (hsi r6.2 1274 (Int32.toNatClampNeg x1) r6.1) with | none => none | some r11 => (b_m_structBody_195 r11.2))) else none)) else none))
set_option maxRecDepth 20000 in
theorem kb_m_structBody_149 {l : Launch} {G : XG} {d : Nat} {x1 : Int32} {h : XH} {r : Unit × XH} (L0 : LY h) (hf : b_m_structBody_149 x1 h = some r) : XR l G xEX12_structBody (d + 3) (149, [some (.ref 1262), some (.int x1), none, none, none], [], h) (fun C => ∃ v, xRet xEX12_structBody C v ∧ (C.2.2.2 = r.2 ∧ v = none) ∧ LY r.2) := by
  unfold b_m_structBody_149 at hf
  refine XS.go (s_aloadn rfl rfl rfl) ?_
  refine XS.go (s_getie rfl xf12_221 (LY.lt L0 (by decide)) (LY.k1262 L0) (by decide) rfl rfl) ?_
  refine r_if_ne (tgt := 195) rfl rfl (fun qc4 => ?_) (fun qc4 => ?_)
  · rw [if_pos qc4] at hf
    exact XR.forget (L2 := [some (.ref 1262), none, none, none, none]) ⟨rfl, trivial⟩ (kb_m_structBody_195 L0 hf)
  · rw [if_neg qc4] at hf
    refine XS.go (s_aloadn rfl rfl rfl) ?_
    refine XS.go (s_getr rfl xf12_43 (LY.lt L0 (by decide)) (LY.k1262 L0) (by decide) rfl (LY.r1262_22 L0)) ?_
    refine XS.go (s_iloadn rfl rfl rfl) ?_
    refine XS.go (s_aloadn rfl rfl rfl) ?_
    refine XS.go (s_getr rfl xf12_43 (LY.lt L0 (by decide)) (LY.k1262 L0) (by decide) rfl (LY.r1262_22 L0)) ?_
    refine XS.go (s_iloadn rfl rfl rfl) ?_
    by_cases qk5 : 0 ≤ x1 ∧ x1 < nI 12
    rotate_left
    · rw [if_neg qk5] at hf; cases hf
    rw [if_pos qk5] at hf
    refine XS.go (s_ialde rfl (LY.lt L0 (by decide)) (LY.k1274 L0) (inLit (LY.n1274 L0) qk5.1 qk5.2 (by decide)) rfl) ?_
    refine XS.go (s_aloadn rfl rfl rfl) ?_
    refine XS.go (s_getr rfl xf12_46 (LY.lt L0 (by decide)) (LY.k1262 L0) (by decide) rfl (LY.r1262_23 L0)) ?_
    refine XS.go (s_iloadn rfl rfl rfl) ?_
    refine XS.go (s_ialde rfl (LY.lt L0 (by decide)) (LY.k1275 L0) (inLit (LY.n1275 L0) qk5.1 qk5.2 (by decide)) rfl) ?_
    rcases e7 : f_m_upTo (hi h 1274 (Int32.toNatClampNeg x1)) (hi h 1275 (Int32.toNatClampNeg x1)) h with _ | r6
    · rw [e7] at hf; cases hf
    rw [e7] at hf; dsimp only at hf
    refine r_calls rfl xsX12_upTo xm12_309 (kf_m_upTo (d := d) L0 e7) rfl rfl (by omega) (by decide) (Nat.le_of_ble_eq_true rfl) ?_
    rintro _ _ ⟨⟨rfl, rfl⟩, L8⟩
    by_cases qk9 : 0 ≤ x1 ∧ x1 < nI 12
    rotate_left
    · rw [if_neg qk9] at hf; cases hf
    rw [if_pos qk9] at hf
    refine XS.go (s_iast rfl (LY.lt L8 (by decide)) (LY.k1274 L8) (inLit (LY.n1274 L8) qk9.1 qk9.2 (by decide))) ?_
    refine XS.go (s_aloadn rfl rfl rfl) ?_
    refine XS.go (s_getr rfl xf12_43 (LY.lt (by simp only [LY_si, LY_sj]; exact L8) (by decide)) (LY.k1262 (by simp only [LY_si, LY_sj]; exact L8)) (by decide) rfl (LY.r1262_22 (by simp only [LY_si, LY_sj]; exact L8))) ?_
    refine XS.go (s_iloadn rfl rfl rfl) ?_
    refine XS.go (s_ialde rfl (LY.lt (by simp only [LY_si, LY_sj]; exact L8) (by decide)) (LY.k1274 (by simp only [LY_si, LY_sj]; exact L8)) (inLit (LY.n1274 (by simp only [LY_si, LY_sj]; exact L8)) qk9.1 qk9.2 (by decide)) hi_hsi_eq) ?_
    refine XS.go (s_sipush (v := 128) rfl rfl) ?_
    refine r_icmp_le (tgt := 195) rfl rfl (fun qc10 => ?_) (fun qc10 => ?_)
    · rw [if_pos qc10] at hf
      exact XR.forget (L2 := [some (.ref 1262), none, none, none, none]) ⟨rfl, trivial⟩ (kb_m_structBody_195 (by simp only [LY_si, LY_sj]; exact L8) hf)
    · rw [if_neg qc10] at hf
      refine XS.go (s_aloadn rfl rfl rfl) ?_
      refine XS.go (s_bipush (v := 8) rfl rfl) ?_
      rcases e12 : f_m_flaw 8 (hsi r6.2 1274 (Int32.toNatClampNeg x1) r6.1) with _ | r11
      · rw [e12] at hf; cases hf
      rw [e12] at hf; dsimp only at hf
      refine r_callv rfl xvX12_flaw xm12_230 (kf_m_flaw (d := d) (by simp only [LY_si, LY_sj]; exact L8) e12) (LY.lt (by simp only [LY_si, LY_sj]; exact L8) (by decide)) (LY.k1262 (by simp only [LY_si, LY_sj]; exact L8)) (by decide) rfl rfl (by omega) (by decide) (Nat.le_of_ble_eq_true rfl) ?_
      rintro _ _ ⟨⟨rfl, rfl⟩, L13⟩
      exact XR.forget (L2 := [some (.ref 1262), none, none, none, none]) ⟨rfl, trivial⟩ (kb_m_structBody_195 L13 hf)
def b_m_structBody_145 (K35 : Int32 → Int32 → XH → Option (Unit × XH)) (x1 : Int32) (y0 : Int32) (h : XH) : Option (Unit × XH) := (K35 x1 y0 h)
set_option maxRecDepth 20000 in
theorem kb_m_structBody_145 {l : Launch} {G : XG} {d : Nat} {K35 : Int32 → Int32 → XH → Option (Unit × XH)} {x1 : Int32} {y0 : Int32} {h : XH} {r : Unit × XH} (hK35 : ∀ (x1 : Int32) (x2 : Int32) (h : XH), LY h → K35 x1 x2 h = some r → XR l G xEX12_structBody (d + 3) (35, [some (.ref 1262), some (.int x1), some (.int x2), none, none], [], h) (fun C => ∃ v, xRet xEX12_structBody C v ∧ (C.2.2.2 = r.2 ∧ v = none) ∧ LY r.2)) (L0 : LY h) (hf : b_m_structBody_145 K35 x1 y0 h = some r) : XR l G xEX12_structBody (d + 3) (145, [some (.ref 1262), some (.int x1), none, none, none], [(.int y0)], h) (fun C => ∃ v, xRet xEX12_structBody C v ∧ (C.2.2.2 = r.2 ∧ v = none) ∧ LY r.2) := by
  unfold b_m_structBody_145 at hf
  refine XS.go (s_istoren rfl rfl (Nat.le_of_ble_eq_true rfl)) ?_
  refine XS.go (s_goto (tgt := 35) rfl rfl) ?_
  exact XR.forget (L2 := [some (.ref 1262), some (.int x1), some (.int y0), none, none]) ⟨rfl, ⟨rfl, ⟨rfl, trivial⟩⟩⟩ (hK35 x1 y0 _ L0 hf)
def b_m_structBody_131 (K35 : Int32 → Int32 → XH → Option (Unit × XH)) (x1 : Int32) (h : XH) : Option (Unit × XH) := (match f_m_isSign 125 h with | none => none | some r14 => (if ¬ r14.1 = 0 then (b_m_structBody_145 K35 x1 0 r14.2) else (b_m_structBody_145 K35 x1 1 r14.2)))
set_option maxRecDepth 20000 in
theorem kb_m_structBody_131 {l : Launch} {G : XG} {d : Nat} {K35 : Int32 → Int32 → XH → Option (Unit × XH)} {x1 : Int32} {h : XH} {r : Unit × XH} (hK35 : ∀ (x1 : Int32) (x2 : Int32) (h : XH), LY h → K35 x1 x2 h = some r → XR l G xEX12_structBody (d + 3) (35, [some (.ref 1262), some (.int x1), some (.int x2), none, none], [], h) (fun C => ∃ v, xRet xEX12_structBody C v ∧ (C.2.2.2 = r.2 ∧ v = none) ∧ LY r.2)) (L0 : LY h) (hf : b_m_structBody_131 K35 x1 h = some r) : XR l G xEX12_structBody (d + 3) (131, [some (.ref 1262), some (.int x1), none, none, none], [], h) (fun C => ∃ v, xRet xEX12_structBody C v ∧ (C.2.2.2 = r.2 ∧ v = none) ∧ LY r.2) := by
  unfold b_m_structBody_131 at hf
  refine XS.go (s_aloadn rfl rfl rfl) ?_
  refine XS.go (s_bipush (v := 125) rfl rfl) ?_
  rcases e15 : f_m_isSign 125 h with _ | r14
  · rw [e15] at hf; cases hf
  rw [e15] at hf; dsimp only at hf
  refine r_callv rfl xvX12_isSign xm12_234 (kf_m_isSign (d := d) L0 e15) (LY.lt L0 (by decide)) (LY.k1262 L0) (by decide) rfl rfl (by omega) (by decide) (Nat.le_of_ble_eq_true rfl) ?_
  rintro _ _ ⟨⟨rfl, rfl⟩, L16⟩
  refine r_if_ne (tgt := 144) rfl rfl (fun qc17 => ?_) (fun qc17 => ?_)
  · rw [if_pos qc17] at hf
    refine XS.go (s_iconst (v := 0) rfl rfl) ?_
    exact XR.forget (L2 := [some (.ref 1262), some (.int x1), none, none, none]) ⟨rfl, ⟨rfl, trivial⟩⟩ (kb_m_structBody_145 hK35 L16 hf)
  · rw [if_neg qc17] at hf
    refine XS.go (s_iconst (v := 1) rfl rfl) ?_
    refine XS.go (s_goto (tgt := 145) rfl rfl) ?_
    exact XR.forget (L2 := [some (.ref 1262), some (.int x1), none, none, none]) ⟨rfl, ⟨rfl, trivial⟩⟩ (kb_m_structBody_145 hK35 L16 hf)
def s_m_structBody_35 (K35 : Int32 → Int32 → XH → Option (Unit × XH)) (x1 : Int32) (x2 : Int32) (h : XH) : Option (Unit × XH) := (if x2 = 0 then (b_m_structBody_149 x1 h) else (if ¬ (hi h 1262 14) = 0 then (b_m_structBody_149 x1 h) else (if 0 ≤ x1 ∧ x1 < nI 12 then (match f_m_fresh 1276 (12 * x1) (hi h 1273 (Int32.toNatClampNeg x1)) 12 h with | none => none | some r21 => (match f_m_take r21.2 with | none => none | some r24 => (match f_m_sign 58 r24.2 with | none => none | some r27 => (match f_m_structType x1 ((12 * x1) + (hi h 1273 (Int32.toNatClampNeg x1))) r27.2 with | none => none | some r30 => (match f_m_sign 59 r30.2 with | none => none | some r33 => (if ¬ (hi r33.2 1262 14) = 0 then (b_m_structBody_131 K35 x1 r33.2) else (if 0 ≤ ((12 * x1) + (hi h 1273 (Int32.toNatClampNeg x1))) ∧ ((12 * x1) + (hi h 1273 (Int32.toNatClampNeg x1))) < nI 144 then (if 0 ≤ x1 ∧ x1 < nI 12 then (b_m_structBody_131 K35 x1 (hsi (hsi r33.2 1276 (Int32.toNatClampNeg ((12 * x1) + (hi h 1273 (Int32.toNatClampNeg x1)))) (hi r21.2 1262 13)) 1273 (Int32.toNatClampNeg x1) ((hi r33.2 1273 (Int32.toNatClampNeg x1)) + 1))) else none) else none))))))) else none)))
set_option maxRecDepth 20000 in
theorem ks_m_structBody_35 {l : Launch} {G : XG} {d : Nat} {K35 : Int32 → Int32 → XH → Option (Unit × XH)} {x1 : Int32} {x2 : Int32} {h : XH} {r : Unit × XH} (hK35 : ∀ (x1 : Int32) (x2 : Int32) (h : XH), LY h → K35 x1 x2 h = some r → XR l G xEX12_structBody (d + 3) (35, [some (.ref 1262), some (.int x1), some (.int x2), none, none], [], h) (fun C => ∃ v, xRet xEX12_structBody C v ∧ (C.2.2.2 = r.2 ∧ v = none) ∧ LY r.2)) (L0 : LY h) (hf : s_m_structBody_35 K35 x1 x2 h = some r) : XR l G xEX12_structBody (d + 3) (35, [some (.ref 1262), some (.int x1), some (.int x2), none, none], [], h) (fun C => ∃ v, xRet xEX12_structBody C v ∧ (C.2.2.2 = r.2 ∧ v = none) ∧ LY r.2) := by
  unfold s_m_structBody_35 at hf
  refine XS.go (s_iloadn rfl rfl rfl) ?_
  refine r_if_eq (tgt := 149) rfl rfl (fun qc18 => ?_) (fun qc18 => ?_)
  · rw [if_pos qc18] at hf
    exact XR.forget (L2 := [some (.ref 1262), some (.int x1), none, none, none]) ⟨rfl, ⟨rfl, trivial⟩⟩ (kb_m_structBody_149 L0 hf)
  · rw [if_neg qc18] at hf
    refine XS.go (s_aloadn rfl rfl rfl) ?_
    refine XS.go (s_getie rfl xf12_221 (LY.lt L0 (by decide)) (LY.k1262 L0) (by decide) rfl rfl) ?_
    refine r_if_ne (tgt := 149) rfl rfl (fun qc19 => ?_) (fun qc19 => ?_)
    · rw [if_pos qc19] at hf
      exact XR.forget (L2 := [some (.ref 1262), some (.int x1), none, none, none]) ⟨rfl, ⟨rfl, trivial⟩⟩ (kb_m_structBody_149 L0 hf)
    · rw [if_neg qc19] at hf
      refine XS.go (s_bipush (v := 12) rfl rfl) ?_
      refine XS.go (s_iloadn rfl rfl rfl) ?_
      refine XS.go (s_imul rfl) ?_
      refine XS.go (s_aloadn rfl rfl rfl) ?_
      refine XS.go (s_getr rfl xf12_40 (LY.lt L0 (by decide)) (LY.k1262 L0) (by decide) rfl (LY.r1262_21 L0)) ?_
      refine XS.go (s_iloadn rfl rfl rfl) ?_
      by_cases qk20 : 0 ≤ x1 ∧ x1 < nI 12
      rotate_left
      · rw [if_neg qk20] at hf; cases hf
      rw [if_pos qk20] at hf
      refine XS.go (s_ialde rfl (LY.lt L0 (by decide)) (LY.k1273 L0) (inLit (LY.n1273 L0) qk20.1 qk20.2 (by decide)) rfl) ?_
      refine XS.go (s_iadd rfl) ?_
      refine XS.go (s_istoren rfl rfl (Nat.le_of_ble_eq_true rfl)) ?_
      refine XS.go (s_aloadn rfl rfl rfl) ?_
      refine XS.go (s_aloadn rfl rfl rfl) ?_
      refine XS.go (s_getr rfl xf12_49 (LY.lt L0 (by decide)) (LY.k1262 L0) (by decide) rfl (LY.r1262_24 L0)) ?_
      refine XS.go (s_bipush (v := 12) rfl rfl) ?_
      refine XS.go (s_iloadn rfl rfl rfl) ?_
      refine XS.go (s_imul rfl) ?_
      refine XS.go (s_aloadn rfl rfl rfl) ?_
      refine XS.go (s_getr rfl xf12_40 (LY.lt L0 (by decide)) (LY.k1262 L0) (by decide) rfl (LY.r1262_21 L0)) ?_
      refine XS.go (s_iloadn rfl rfl rfl) ?_
      refine XS.go (s_ialde rfl (LY.lt L0 (by decide)) (LY.k1273 L0) (inLit (LY.n1273 L0) qk20.1 qk20.2 (by decide)) rfl) ?_
      refine XS.go (s_bipush (v := 12) rfl rfl) ?_
      rcases e22 : f_m_fresh 1276 (12 * x1) (hi h 1273 (Int32.toNatClampNeg x1)) 12 h with _ | r21
      · rw [e22] at hf; cases hf
      rw [e22] at hf; dsimp only at hf
      refine r_callv rfl xvX12_fresh xm12_301 (kf_m_fresh (d := d) L0 e22) (LY.lt L0 (by decide)) (LY.k1262 L0) (by decide) rfl rfl (by omega) (by decide) (Nat.le_of_ble_eq_true rfl) ?_
      rintro _ _ ⟨⟨rfl, rfl⟩, L23⟩
      refine XS.go (s_aloadn rfl rfl rfl) ?_
      refine XS.go (s_getie rfl xf12_224 (LY.lt L23 (by decide)) (LY.k1262 L23) (by decide) rfl rfl) ?_
      refine XS.go (s_istore rfl (Nat.le_of_ble_eq_true rfl)) ?_
      refine XS.go (s_aloadn rfl rfl rfl) ?_
      rcases e25 : f_m_take r21.2 with _ | r24
      · rw [e25] at hf; cases hf
      rw [e25] at hf; dsimp only at hf
      refine r_callv rfl xvX12_take xm12_240 (kf_m_take (d := d) L23 e25) (LY.lt L23 (by decide)) (LY.k1262 L23) (by decide) rfl rfl (by omega) (by decide) (Nat.le_of_ble_eq_true rfl) ?_
      rintro _ _ ⟨⟨rfl, rfl⟩, L26⟩
      refine XS.go (s_aloadn rfl rfl rfl) ?_
      refine XS.go (s_bipush (v := 58) rfl rfl) ?_
      rcases e28 : f_m_sign 58 r24.2 with _ | r27
      · rw [e28] at hf; cases hf
      rw [e28] at hf; dsimp only at hf
      refine r_callv rfl xvX12_sign xm12_282 (kf_m_sign (d := d) L26 e28) (LY.lt L26 (by decide)) (LY.k1262 L26) (by decide) rfl rfl (by omega) (by decide) (Nat.le_of_ble_eq_true rfl) ?_
      rintro _ _ ⟨⟨rfl, rfl⟩, L29⟩
      refine XS.go (s_aloadn rfl rfl rfl) ?_
      refine XS.go (s_iloadn rfl rfl rfl) ?_
      refine XS.go (s_iloadn rfl rfl rfl) ?_
      rcases e31 : f_m_structType x1 ((12 * x1) + (hi h 1273 (Int32.toNatClampNeg x1))) r27.2 with _ | r30
      · rw [e31] at hf; cases hf
      rw [e31] at hf; dsimp only at hf
      refine r_callv rfl xvX12_structType xm12_305 (kf_m_structType (d := d) L29 e31) (LY.lt L29 (by decide)) (LY.k1262 L29) (by decide) rfl rfl (by omega) (by decide) (Nat.le_of_ble_eq_true rfl) ?_
      rintro _ _ ⟨⟨rfl, rfl⟩, L32⟩
      refine XS.go (s_aloadn rfl rfl rfl) ?_
      refine XS.go (s_bipush (v := 59) rfl rfl) ?_
      rcases e34 : f_m_sign 59 r30.2 with _ | r33
      · rw [e34] at hf; cases hf
      rw [e34] at hf; dsimp only at hf
      refine r_callv rfl xvX12_sign xm12_282 (kf_m_sign (d := d) L32 e34) (LY.lt L32 (by decide)) (LY.k1262 L32) (by decide) rfl rfl (by omega) (by decide) (Nat.le_of_ble_eq_true rfl) ?_
      rintro _ _ ⟨⟨rfl, rfl⟩, L35⟩
      refine XS.go (s_aloadn rfl rfl rfl) ?_
      refine XS.go (s_getie rfl xf12_221 (LY.lt L35 (by decide)) (LY.k1262 L35) (by decide) rfl rfl) ?_
      refine r_if_ne (tgt := 131) rfl rfl (fun qc36 => ?_) (fun qc36 => ?_)
      · rw [if_pos qc36] at hf
        exact XR.forget (L2 := [some (.ref 1262), some (.int x1), none, none, none]) ⟨rfl, ⟨rfl, trivial⟩⟩ (kb_m_structBody_131 hK35 L35 hf)
      · rw [if_neg qc36] at hf
        refine XS.go (s_aloadn rfl rfl rfl) ?_
        refine XS.go (s_getr rfl xf12_49 (LY.lt L35 (by decide)) (LY.k1262 L35) (by decide) rfl (LY.r1262_24 L35)) ?_
        refine XS.go (s_iloadn rfl rfl rfl) ?_
        refine XS.go (s_iload rfl rfl) ?_
        by_cases qk37 : 0 ≤ ((12 * x1) + (hi h 1273 (Int32.toNatClampNeg x1))) ∧ ((12 * x1) + (hi h 1273 (Int32.toNatClampNeg x1))) < nI 144
        rotate_left
        · rw [if_neg qk37] at hf; cases hf
        rw [if_pos qk37] at hf
        refine XS.go (s_iast rfl (LY.lt L35 (by decide)) (LY.k1276 L35) (inLit (LY.n1276 L35) qk37.1 qk37.2 (by decide))) ?_
        refine XS.go (s_aloadn rfl rfl rfl) ?_
        refine XS.go (s_getr rfl xf12_40 (LY.lt (by simp only [LY_si, LY_sj]; exact L35) (by decide)) (LY.k1262 (by simp only [LY_si, LY_sj]; exact L35)) (by decide) rfl (LY.r1262_21 (by simp only [LY_si, LY_sj]; exact L35))) ?_
        refine XS.go (s_iloadn rfl rfl rfl) ?_
        refine XS.go (s_dup2 rfl rfl rfl) ?_
        by_cases qk38 : 0 ≤ x1 ∧ x1 < nI 12
        rotate_left
        · rw [if_neg qk38] at hf; cases hf
        rw [if_pos qk38] at hf
        refine XS.go (s_ialde rfl (LY.lt (by simp only [LY_si, LY_sj]; exact L35) (by decide)) (LY.k1273 (by simp only [LY_si, LY_sj]; exact L35)) (inLit (LY.n1273 (by simp only [LY_si, LY_sj]; exact L35)) qk38.1 qk38.2 (by decide)) (hi_hsi_na (by decide))) ?_
        refine XS.go (s_iconst (v := 1) rfl rfl) ?_
        refine XS.go (s_iadd rfl) ?_
        refine XS.go (s_iast rfl (LY.lt (by simp only [LY_si, LY_sj]; exact L35) (by decide)) (LY.k1273 (by simp only [LY_si, LY_sj]; exact L35)) (inLit (LY.n1273 (by simp only [LY_si, LY_sj]; exact L35)) qk38.1 qk38.2 (by decide))) ?_
        exact XR.forget (L2 := [some (.ref 1262), some (.int x1), none, none, none]) ⟨rfl, ⟨rfl, trivial⟩⟩ (kb_m_structBody_131 hK35 (by simp only [LY_si, LY_sj]; exact L35) hf)
def b_m_structBody_35 : Nat → Int32 → Int32 → XH → Option (Unit × XH)
  | 0, _, _, _ => none
  | n + 1, x1, x2, h => s_m_structBody_35 (b_m_structBody_35 n) x1 x2 h
theorem kb_m_structBody_35 {l : Launch} {G : XG} {d : Nat} {n : Nat} {x1 : Int32} {x2 : Int32} {h : XH} {r : Unit × XH} (L0 : LY h) (hf : b_m_structBody_35 n x1 x2 h = some r) : XR l G xEX12_structBody (d + 3) (35, [some (.ref 1262), some (.int x1), some (.int x2), none, none], [], h) (fun C => ∃ v, xRet xEX12_structBody C v ∧ (C.2.2.2 = r.2 ∧ v = none) ∧ LY r.2) := by
  induction n generalizing x1 x2 h with
  | zero => cases hf
  | succ n ih => exact ks_m_structBody_35 (fun x1 x2 h L0 hf => ih (h := h) (x1 := x1) (x2 := x2) L0 hf) L0 hf
def f_m_structBody (h : XH) : Option (Unit × XH) := (if 0 ≤ (hi h 1262 20) ∧ (hi h 1262 20) < nI 12 then (b_m_structBody_35 100000 (hi h 1262 20) 1 (hsi (hsi (hsi (hsi h 1273 (Int32.toNatClampNeg (hi h 1262 20)) 0) 1274 (Int32.toNatClampNeg (hi h 1262 20)) 0) 1275 (Int32.toNatClampNeg (hi h 1262 20)) 1) 1280 (Int32.toNatClampNeg (hi h 1262 20)) 0)) else none)
set_option maxRecDepth 20000 in
theorem kf_m_structBody {l : Launch} {G : XG} {d : Nat} {h : XH} {r : Unit × XH} (L0 : LY h) (hf : f_m_structBody h = some r) : XC l G xEX12_structBody (d + 3) [.ref 1262] h (fun v h2 => (h2 = r.2 ∧ v = none) ∧ LY r.2) := by
  refine XC.virt xvX12_structBody (Nat.le_of_ble_eq_true rfl) ?_
  unfold f_m_structBody at hf
  refine XS.go (s_aloadn rfl rfl rfl) ?_
  refine XS.go (s_getie rfl xf12_254 (LY.lt L0 (by decide)) (LY.k1262 L0) (by decide) rfl rfl) ?_
  refine XS.go (s_istoren rfl rfl (Nat.le_of_ble_eq_true rfl)) ?_
  refine XS.go (s_aloadn rfl rfl rfl) ?_
  refine XS.go (s_getr rfl xf12_40 (LY.lt L0 (by decide)) (LY.k1262 L0) (by decide) rfl (LY.r1262_21 L0)) ?_
  refine XS.go (s_iloadn rfl rfl rfl) ?_
  refine XS.go (s_iconst (v := 0) rfl rfl) ?_
  by_cases qk39 : 0 ≤ (hi h 1262 20) ∧ (hi h 1262 20) < nI 12
  rotate_left
  · rw [if_neg qk39] at hf; cases hf
  rw [if_pos qk39] at hf
  refine XS.go (s_iast rfl (LY.lt L0 (by decide)) (LY.k1273 L0) (inLit (LY.n1273 L0) qk39.1 qk39.2 (by decide))) ?_
  refine XS.go (s_aloadn rfl rfl rfl) ?_
  refine XS.go (s_getr rfl xf12_43 (LY.lt (by simp only [LY_si, LY_sj]; exact L0) (by decide)) (LY.k1262 (by simp only [LY_si, LY_sj]; exact L0)) (by decide) rfl (LY.r1262_22 (by simp only [LY_si, LY_sj]; exact L0))) ?_
  refine XS.go (s_iloadn rfl rfl rfl) ?_
  refine XS.go (s_iconst (v := 0) rfl rfl) ?_
  refine XS.go (s_iast rfl (LY.lt (by simp only [LY_si, LY_sj]; exact L0) (by decide)) (LY.k1274 (by simp only [LY_si, LY_sj]; exact L0)) (inLit (LY.n1274 (by simp only [LY_si, LY_sj]; exact L0)) qk39.1 qk39.2 (by decide))) ?_
  refine XS.go (s_aloadn rfl rfl rfl) ?_
  refine XS.go (s_getr rfl xf12_46 (LY.lt (by simp only [LY_si, LY_sj]; exact L0) (by decide)) (LY.k1262 (by simp only [LY_si, LY_sj]; exact L0)) (by decide) rfl (LY.r1262_23 (by simp only [LY_si, LY_sj]; exact L0))) ?_
  refine XS.go (s_iloadn rfl rfl rfl) ?_
  refine XS.go (s_iconst (v := 1) rfl rfl) ?_
  refine XS.go (s_iast rfl (LY.lt (by simp only [LY_si, LY_sj]; exact L0) (by decide)) (LY.k1275 (by simp only [LY_si, LY_sj]; exact L0)) (inLit (LY.n1275 (by simp only [LY_si, LY_sj]; exact L0)) qk39.1 qk39.2 (by decide))) ?_
  refine XS.go (s_aloadn rfl rfl rfl) ?_
  refine XS.go (s_getr rfl xf12_61 (LY.lt (by simp only [LY_si, LY_sj]; exact L0) (by decide)) (LY.k1262 (by simp only [LY_si, LY_sj]; exact L0)) (by decide) rfl (LY.r1262_28 (by simp only [LY_si, LY_sj]; exact L0))) ?_
  refine XS.go (s_iloadn rfl rfl rfl) ?_
  refine XS.go (s_iconst (v := 0) rfl rfl) ?_
  refine XS.go (s_iast rfl (LY.lt (by simp only [LY_si, LY_sj]; exact L0) (by decide)) (LY.k1280 (by simp only [LY_si, LY_sj]; exact L0)) (inLit (LY.n1280 (by simp only [LY_si, LY_sj]; exact L0)) qk39.1 qk39.2 (by decide))) ?_
  refine XS.go (s_iconst (v := 1) rfl rfl) ?_
  refine XS.go (s_istoren rfl rfl (Nat.le_of_ble_eq_true rfl)) ?_
  exact XR.forget (L2 := [some (.ref 1262), some (.int (hi h 1262 20)), some (.int 1), none, none]) ⟨rfl, ⟨rfl, ⟨rfl, trivial⟩⟩⟩ (kb_m_structBody_35 (by simp only [LY_si, LY_sj]; exact L0) hf)
