/-! Methods as functions of the heap -/
def f_m_two (a0 : Int32) (a1 : Int32) (h : XH) : Option (Unit × XH) := (if 0 ≤ a0 ∧ a0 < nI 68 then (if 0 ≤ (a0 + 1) ∧ (a0 + 1) < nI 68 then (some ((), (hsi (hsi h 1309 (Int32.toNatClampNeg a0) (a1 &&& 255)) 1309 (Int32.toNatClampNeg (a0 + 1)) (a1 >>> (8 &&& 31))))) else none) else none)
set_option maxRecDepth 20000 in
theorem kf_m_two {l : Launch} {G : XG} {d : Nat} {a0 : Int32} {a1 : Int32} {h : XH} {r : Unit × XH} (L0 : LY h) (hf : f_m_two a0 a1 h = some r) : XC l G xEX12_two d [.ref 1262, .int a0, .int a1] h (fun v h2 => (h2 = r.2 ∧ v = none) ∧ LY r.2) := by
  refine XC.virt xvX12_two (Nat.le_of_ble_eq_true rfl) ?_
  unfold f_m_two at hf
  refine XR.norm (L3 := [some (.ref 1262), some (.int a0), some (.int a1)]) rfl ?_
  refine XS.go (s_aloadn rfl rfl rfl) ?_
  refine XS.go (s_getr rfl xf12_154 (LY.lt L0 (by decide)) (LY.k1262 L0) (by decide) rfl (LY.r1262_73 L0)) ?_
  refine XS.go (s_iloadn rfl rfl rfl) ?_
  refine XS.go (s_iloadn rfl rfl rfl) ?_
  refine XS.go (s_sipush (v := 255) rfl rfl) ?_
  refine XS.go (s_iand rfl) ?_
  replace hf := xi_none hf
  obtain ⟨qk1, hf⟩ := hf
  refine XS.go (s_iast rfl (LY.lt L0 (by decide)) (LY.k1309 L0) (inLit (LY.n1309 L0) qk1.1 qk1.2 (by decide))) ?_
  refine XS.go (s_aloadn rfl rfl rfl) ?_
  refine XS.go (s_getr rfl xf12_154 (LY.lt (by simp only [LY_si, LY_sj]; exact L0) (by decide)) (LY.k1262 (by simp only [LY_si, LY_sj]; exact L0)) (by decide) rfl (LY.r1262_73 (by simp only [LY_si, LY_sj]; exact L0))) ?_
  refine XS.go (s_iloadn rfl rfl rfl) ?_
  refine XS.go (s_iconst (v := 1) rfl rfl) ?_
  refine XS.go (s_iadd rfl) ?_
  refine XS.go (s_iloadn rfl rfl rfl) ?_
  refine XS.go (s_bipush (v := 8) rfl rfl) ?_
  refine XS.go (s_ishr rfl) ?_
  replace hf := xi_none hf
  obtain ⟨qk2, hf⟩ := hf
  refine XS.go (s_iast rfl (LY.lt (by simp only [LY_si, LY_sj]; exact L0) (by decide)) (LY.k1309 (by simp only [LY_si, LY_sj]; exact L0)) (inLit (LY.n1309 (by simp only [LY_si, LY_sj]; exact L0)) qk2.1 qk2.2 (by decide))) ?_
  cases hf
  exact XR.retv rfl rfl (fun hret => ⟨_, hret, ⟨rfl, rfl⟩, (by simp only [LY_si, LY_sj]; exact L0)⟩)
def b_m_ready_312 (x6 : Int32) (h : XH) : Option (Int32 × XH) := (some (x6, (hsi h 1262 67 (-1))))
set_option maxRecDepth 20000 in
theorem kb_m_ready_312 {l : Launch} {G : XG} {d : Nat} {x6 : Int32} {h : XH} {r : Int32 × XH} (L0 : LY h) (hf : b_m_ready_312 x6 h = some r) : XR l G xEX12_ready (d + 1) (312, [some (.ref 1262), none, none, none, none, none, some (.int x6), none], [], h) (fun C => ∃ v, xRet xEX12_ready C v ∧ (C.2.2.2 = r.2 ∧ v = some (.int r.1)) ∧ LY r.2) := by
  unfold b_m_ready_312 at hf
  refine XS.go (s_aloadn rfl rfl rfl) ?_
  refine XS.go (s_iconst (v := (-1)) rfl rfl) ?_
  refine XS.go (s_puti rfl xf12_140 (LY.lt L0 (by decide)) (LY.k1262 L0) (by decide) rfl (Or.inl rfl)) ?_
  refine XS.go (s_iload rfl rfl) ?_
  cases hf
  exact XR.reti rfl rfl (fun hret => ⟨_, hret, ⟨rfl, rfl⟩, (by simp only [LY_si, LY_sj]; exact L0)⟩)
def s_m_ready_255 (K255 : Int32 → Int32 → Int32 → XH → Option (Int32 × XH)) (x3 : Int32) (x6 : Int32) (x7 : Int32) (h : XH) : Option (Int32 × XH) := (if x7 < 0 then (if 0 ≤ (hi h 1262 64) ∧ (hi h 1262 64) < nI 300 then (b_m_ready_312 x6 (hsi (hsi (hsi h 1304 (Int32.toNatClampNeg (hi h 1262 64)) (hi h 1262 57)) 1305 (Int32.toNatClampNeg (hi h 1262 64)) x3) 1262 64 ((hi h 1262 64) + 1))) else none) else (if 0 ≤ x7 ∧ x7 < nI 68 then (Option.bind (f_m_ahead (Int32.toInt64 (hi h 1309 (Int32.toNatClampNeg x7))) 1 h) fun r4 => (K255 x3 x6 (x7 + (-1)) r4.2)) else none))
set_option maxRecDepth 20000 in
theorem ks_m_ready_255 {l : Launch} {G : XG} {d : Nat} {K255 : Int32 → Int32 → Int32 → XH → Option (Int32 × XH)} {x3 : Int32} {x6 : Int32} {x7 : Int32} {h : XH} {r : Int32 × XH} (hK255 : ∀ (x3 : Int32) (x6 : Int32) (x7 : Int32) (h : XH), LY h → K255 x3 x6 x7 h = some r → XR l G xEX12_ready (d + 1) (255, [some (.ref 1262), none, none, some (.int x3), none, none, some (.int x6), some (.int x7)], [], h) (fun C => ∃ v, xRet xEX12_ready C v ∧ (C.2.2.2 = r.2 ∧ v = some (.int r.1)) ∧ LY r.2)) (L0 : LY h) (hf : s_m_ready_255 K255 x3 x6 x7 h = some r) : XR l G xEX12_ready (d + 1) (255, [some (.ref 1262), none, none, some (.int x3), none, none, some (.int x6), some (.int x7)], [], h) (fun C => ∃ v, xRet xEX12_ready C v ∧ (C.2.2.2 = r.2 ∧ v = some (.int r.1)) ∧ LY r.2) := by
  unfold s_m_ready_255 at hf
  refine XS.go (s_iload rfl rfl) ?_
  refine r_if_lt (tgt := 279) rfl rfl (fun qc1 => ?_) (fun qc1 => ?_)
  · replace hf := xi_pos hf qc1
    refine XS.go (s_aloadn rfl rfl rfl) ?_
    refine XS.go (s_getr rfl xf12_134 (LY.lt L0 (by decide)) (LY.k1262 L0) (by decide) rfl (LY.r1262_65 L0)) ?_
    refine XS.go (s_aloadn rfl rfl rfl) ?_
    refine XS.go (s_getie rfl xf12_391 (LY.lt L0 (by decide)) (LY.k1262 L0) (by decide) rfl rfl) ?_
    refine XS.go (s_aloadn rfl rfl rfl) ?_
    refine XS.go (s_getie rfl xf12_382 (LY.lt L0 (by decide)) (LY.k1262 L0) (by decide) rfl rfl) ?_
    replace hf := xi_none hf
    obtain ⟨qk2, hf⟩ := hf
    refine XS.go (s_iast rfl (LY.lt L0 (by decide)) (LY.k1304 L0) (inLit (LY.n1304 L0) qk2.1 qk2.2 (by decide))) ?_
    refine XS.go (s_aloadn rfl rfl rfl) ?_
    refine XS.go (s_getr rfl xf12_137 (LY.lt (by simp only [LY_si, LY_sj]; exact L0) (by decide)) (LY.k1262 (by simp only [LY_si, LY_sj]; exact L0)) (by decide) rfl (LY.r1262_66 (by simp only [LY_si, LY_sj]; exact L0))) ?_
    refine XS.go (s_aloadn rfl rfl rfl) ?_
    refine XS.go (s_getie rfl xf12_391 (LY.lt (by simp only [LY_si, LY_sj]; exact L0) (by decide)) (LY.k1262 (by simp only [LY_si, LY_sj]; exact L0)) (by decide) rfl (hi_hsi_na (by decide))) ?_
    refine XS.go (s_iloadn rfl rfl rfl) ?_
    refine XS.go (s_iast rfl (LY.lt (by simp only [LY_si, LY_sj]; exact L0) (by decide)) (LY.k1305 (by simp only [LY_si, LY_sj]; exact L0)) (inLit (LY.n1305 (by simp only [LY_si, LY_sj]; exact L0)) qk2.1 qk2.2 (by decide))) ?_
    refine XS.go (s_aloadn rfl rfl rfl) ?_
    refine XS.go (s_dup rfl rfl) ?_
    refine XS.go (s_getie rfl xf12_391 (LY.lt (by simp only [LY_si, LY_sj]; exact L0) (by decide)) (LY.k1262 (by simp only [LY_si, LY_sj]; exact L0)) (by decide) rfl ((hi_hsi_na (by decide)).trans (hi_hsi_na (by decide)))) ?_
    refine XS.go (s_iconst (v := 1) rfl rfl) ?_
    refine XS.go (s_iadd rfl) ?_
    refine XS.go (s_puti rfl xf12_391 (LY.lt (by simp only [LY_si, LY_sj]; exact L0) (by decide)) (LY.k1262 (by simp only [LY_si, LY_sj]; exact L0)) (by decide) rfl (Or.inl rfl)) ?_
    exact XR.forget (L2 := [some (.ref 1262), none, none, none, none, none, some (.int x6), none]) ⟨rfl, ⟨rfl, trivial⟩⟩ (kb_m_ready_312 (by simp only [LY_si, LY_sj]; exact L0) hf)
  · replace hf := xi_neg hf qc1
    refine XS.go (s_aloadn rfl rfl rfl) ?_
    refine XS.go (s_aloadn rfl rfl rfl) ?_
    refine XS.go (s_getr rfl xf12_154 (LY.lt L0 (by decide)) (LY.k1262 L0) (by decide) rfl (LY.r1262_73 L0)) ?_
    refine XS.go (s_iload rfl rfl) ?_
    replace hf := xi_none hf
    obtain ⟨qk3, hf⟩ := hf
    refine XS.go (s_ialde rfl (LY.lt L0 (by decide)) (LY.k1309 L0) (inLit (LY.n1309 L0) qk3.1 qk3.2 (by decide)) rfl) ?_
    refine XS.go (s_i2l rfl) ?_
    refine XS.go (s_iconst (v := 1) rfl rfl) ?_
    replace hf := xb_some hf
    obtain ⟨r4, e5, hf⟩ := hf
    refine r_callv rfl xvX12_ahead xm12_396 (kf_m_ahead (d := d) L0 e5) (LY.lt L0 (by decide)) (LY.k1262 L0) (by decide) rfl rfl (dl0 (by decide)) (by decide) (Nat.le_of_ble_eq_true rfl) ?_
    rintro _ _ ⟨⟨rfl, rfl⟩, L6⟩
    refine XS.go (XS.lcl (L3 := [some (.ref 1262), none, none, some (.int x3), none, none, some (.int x6), some (.int (x7 + (-1)))]) (s_dec rfl rfl (Nat.le_of_ble_eq_true rfl)) rfl) ?_
    refine XS.go (s_goto (tgt := 255) rfl rfl) ?_
    exact XR.forget (L2 := [some (.ref 1262), none, none, some (.int x3), none, none, some (.int x6), some (.int (x7 + (-1)))]) ⟨rfl, ⟨rfl, ⟨rfl, ⟨rfl, trivial⟩⟩⟩⟩ (hK255 x3 x6 (x7 + (-1)) _ L6 hf)
def b_m_ready_255 : Nat → Int32 → Int32 → Int32 → XH → Option (Int32 × XH)
  | 0, _, _, _, _ => none
  | n + 1, x3, x6, x7, h => s_m_ready_255 (b_m_ready_255 n) x3 x6 x7 h
theorem kb_m_ready_255 {l : Launch} {G : XG} {d : Nat} {n : Nat} {x3 : Int32} {x6 : Int32} {x7 : Int32} {h : XH} {r : Int32 × XH} (L0 : LY h) (hf : b_m_ready_255 n x3 x6 x7 h = some r) : XR l G xEX12_ready (d + 1) (255, [some (.ref 1262), none, none, some (.int x3), none, none, some (.int x6), some (.int x7)], [], h) (fun C => ∃ v, xRet xEX12_ready C v ∧ (C.2.2.2 = r.2 ∧ v = some (.int r.1)) ∧ LY r.2) := by
  induction n generalizing x3 x6 x7 h with
  | zero => cases hf
  | succ n ih => exact ks_m_ready_255 (fun x3 x6 x7 h L0 hf => ih (h := h) (x3 := x3) (x6 := x6) (x7 := x7) L0 hf) L0 hf
def b_m_ready_220 (x2 : Int32) (x3 : Int32) (x4 : Int32) (x5 : Int32) (y1 : Int32) (h : XH) : Option (Int32 × XH) := (Option.bind (f_m_ahead (Int32.toInt64 (y1 - x2)) 4 h) fun r7 => (Option.bind (f_m_thing 3 (-1) (hi r7.2 1262 67) r7.2) fun r10 => (if ¬ x4 = 0 then (b_m_ready_312 r10.1 r10.2) else (Option.bind (f_m_zeros x5 r10.2) fun r14 => (b_m_ready_255 100000 x3 r10.1 (x3 - 1) r14.2)))))
set_option maxRecDepth 20000 in
theorem kb_m_ready_220 {l : Launch} {G : XG} {d : Nat} {x2 : Int32} {x3 : Int32} {x4 : Int32} {x5 : Int32} {y1 : Int32} {h : XH} {r : Int32 × XH} (L0 : LY h) (hf : b_m_ready_220 x2 x3 x4 x5 y1 h = some r) : XR l G xEX12_ready (d + 1) (220, [some (.ref 1262), none, some (.int x2), some (.int x3), some (.int x4), some (.int x5), none, none], [(.int y1), (.ref 1262)], h) (fun C => ∃ v, xRet xEX12_ready C v ∧ (C.2.2.2 = r.2 ∧ v = some (.int r.1)) ∧ LY r.2) := by
  unfold b_m_ready_220 at hf
  refine XS.go (s_iloadn rfl rfl rfl) ?_
  refine XS.go (s_isub rfl) ?_
  refine XS.go (s_i2l rfl) ?_
  refine XS.go (s_iconst (v := 4) rfl rfl) ?_
  replace hf := xb_some hf
  obtain ⟨r7, e8, hf⟩ := hf
  refine r_callv rfl xvX12_ahead xm12_396 (kf_m_ahead (d := d) L0 e8) (LY.lt L0 (by decide)) (LY.k1262 L0) (by decide) rfl rfl (dl0 (by decide)) (by decide) (Nat.le_of_ble_eq_true rfl) ?_
  rintro _ _ ⟨⟨rfl, rfl⟩, L9⟩
  refine XS.go (s_aloadn rfl rfl rfl) ?_
  refine XS.go (s_iconst (v := 3) rfl rfl) ?_
  refine XS.go (s_iconst (v := (-1)) rfl rfl) ?_
  refine XS.go (s_aloadn rfl rfl rfl) ?_
  refine XS.go (s_getie rfl xf12_140 (LY.lt L9 (by decide)) (LY.k1262 L9) (by decide) rfl rfl) ?_
  replace hf := xb_some hf
  obtain ⟨r10, e11, hf⟩ := hf
  refine r_callv rfl xvX12_thing xm12_410 (kf_m_thing (d := d) L9 e11) (LY.lt L9 (by decide)) (LY.k1262 L9) (by decide) rfl rfl (dl0 (by decide)) (by decide) (Nat.le_of_ble_eq_true rfl) ?_
  rintro _ _ ⟨⟨rfl, rfl⟩, L12⟩
  refine XS.go (XS.lcl (L3 := [some (.ref 1262), none, some (.int x2), some (.int x3), some (.int x4), some (.int x5), some (.int r10.1), none]) (s_istore rfl (Nat.le_of_ble_eq_true rfl)) rfl) ?_
  refine XS.go (s_iload rfl rfl) ?_
  refine r_if_ne (tgt := 312) rfl rfl (fun qc13 => ?_) (fun qc13 => ?_)
  · replace hf := xi_pos hf qc13
    exact XR.forget (L2 := [some (.ref 1262), none, none, none, none, none, some (.int r10.1), none]) ⟨rfl, ⟨rfl, trivial⟩⟩ (kb_m_ready_312 L12 hf)
  · replace hf := xi_neg hf qc13
    refine XS.go (s_aloadn rfl rfl rfl) ?_
    refine XS.go (s_iload rfl rfl) ?_
    replace hf := xb_some hf
    obtain ⟨r14, e15, hf⟩ := hf
    refine r_callv rfl xvX12_zeros xm12_407 (kf_m_zeros (d := d) L12 e15) (LY.lt L12 (by decide)) (LY.k1262 L12) (by decide) rfl rfl (dl0 (by decide)) (by decide) (Nat.le_of_ble_eq_true rfl) ?_
    rintro _ _ ⟨⟨rfl, rfl⟩, L16⟩
    refine XS.go (s_iloadn rfl rfl rfl) ?_
    refine XS.go (s_iconst (v := 1) rfl rfl) ?_
    refine XS.go (s_isub rfl) ?_
    refine XS.go (XS.lcl (L3 := [some (.ref 1262), none, some (.int x2), some (.int x3), some (.int x4), some (.int x5), some (.int r10.1), some (.int (x3 - 1))]) (s_istore rfl (Nat.le_of_ble_eq_true rfl)) rfl) ?_
    exact XR.forget (L2 := [some (.ref 1262), none, none, some (.int x3), none, none, some (.int r10.1), some (.int (x3 - 1))]) ⟨rfl, ⟨rfl, ⟨rfl, ⟨rfl, trivial⟩⟩⟩⟩ (kb_m_ready_255 L16 hf)
def b_m_ready_191 (h : XH) : Option (Int32 × XH) := (some (0, (hsi h 1262 0 2)))
set_option maxRecDepth 20000 in
theorem kb_m_ready_191 {l : Launch} {G : XG} {d : Nat} {h : XH} {r : Int32 × XH} (L0 : LY h) (hf : b_m_ready_191 h = some r) : XR l G xEX12_ready (d + 1) (191, [some (.ref 1262), none, none, none, none, none, none, none], [], h) (fun C => ∃ v, xRet xEX12_ready C v ∧ (C.2.2.2 = r.2 ∧ v = some (.int r.1)) ∧ LY r.2) := by
  unfold b_m_ready_191 at hf
  refine XS.go (s_aloadn rfl rfl rfl) ?_
  refine XS.go (s_iconst (v := 2) rfl rfl) ?_
  refine XS.go (s_puti rfl xf12_175 (LY.lt L0 (by decide)) (LY.k1262 L0) (by decide) rfl (Or.inl rfl)) ?_
  refine XS.go (s_iconst (v := 0) rfl rfl) ?_
  cases hf
  exact XR.reti rfl rfl (fun hret => ⟨_, hret, ⟨rfl, rfl⟩, (by simp only [LY_si, LY_sj]; exact L0)⟩)
def b_m_ready_185 (x1 : Int32) (x2 : Int32) (x3 : Int32) (x4 : Int32) (x5 : Int32) (y0 : Int32) (h : XH) : Option (Int32 × XH) := (if y0 ≤ 4000 then (Option.bind (f_m_zeros x1 h) fun r18 => (if ¬ x4 = 0 then (b_m_ready_220 x2 x3 x4 x5 x4 r18.2) else (b_m_ready_220 x2 x3 x4 x5 ((x2 + x5) + x3) r18.2))) else (b_m_ready_191 h))
set_option maxRecDepth 20000 in
theorem kb_m_ready_185 {l : Launch} {G : XG} {d : Nat} {x1 : Int32} {x2 : Int32} {x3 : Int32} {x4 : Int32} {x5 : Int32} {y0 : Int32} {h : XH} {r : Int32 × XH} (L0 : LY h) (hf : b_m_ready_185 x1 x2 x3 x4 x5 y0 h = some r) : XR l G xEX12_ready (d + 1) (185, [some (.ref 1262), some (.int x1), some (.int x2), some (.int x3), some (.int x4), some (.int x5), none, none], [(.int y0)], h) (fun C => ∃ v, xRet xEX12_ready C v ∧ (C.2.2.2 = r.2 ∧ v = some (.int r.1)) ∧ LY r.2) := by
  unfold b_m_ready_185 at hf
  refine XS.go (s_sipush (v := 4000) rfl rfl) ?_
  refine r_icmp_le (tgt := 198) rfl rfl (fun qc17 => ?_) (fun qc17 => ?_)
  · replace hf := xi_pos hf qc17
    refine XS.go (s_aloadn rfl rfl rfl) ?_
    refine XS.go (s_iloadn rfl rfl rfl) ?_
    replace hf := xb_some hf
    obtain ⟨r18, e19, hf⟩ := hf
    refine r_callv rfl xvX12_zeros xm12_407 (kf_m_zeros (d := d) L0 e19) (LY.lt L0 (by decide)) (LY.k1262 L0) (by decide) rfl rfl (dl0 (by decide)) (by decide) (Nat.le_of_ble_eq_true rfl) ?_
    rintro _ _ ⟨⟨rfl, rfl⟩, L20⟩
    refine XS.go (s_aloadn rfl rfl rfl) ?_
    refine XS.go (s_iload rfl rfl) ?_
    refine r_if_ne (tgt := 218) rfl rfl (fun qc21 => ?_) (fun qc21 => ?_)
    · replace hf := xi_pos hf qc21
      refine XS.go (s_iload rfl rfl) ?_
      exact XR.forget (L2 := [some (.ref 1262), none, some (.int x2), some (.int x3), some (.int x4), some (.int x5), none, none]) ⟨rfl, ⟨rfl, ⟨rfl, ⟨rfl, ⟨rfl, trivial⟩⟩⟩⟩⟩ (kb_m_ready_220 L20 hf)
    · replace hf := xi_neg hf qc21
      refine XS.go (s_iloadn rfl rfl rfl) ?_
      refine XS.go (s_iload rfl rfl) ?_
      refine XS.go (s_iadd rfl) ?_
      refine XS.go (s_iloadn rfl rfl rfl) ?_
      refine XS.go (s_iadd rfl) ?_
      refine XS.go (s_goto (tgt := 220) rfl rfl) ?_
      exact XR.forget (L2 := [some (.ref 1262), none, some (.int x2), some (.int x3), some (.int x4), some (.int x5), none, none]) ⟨rfl, ⟨rfl, ⟨rfl, ⟨rfl, ⟨rfl, trivial⟩⟩⟩⟩⟩ (kb_m_ready_220 L20 hf)
  · replace hf := xi_neg hf qc17
    exact XR.forget (L2 := [some (.ref 1262), none, none, none, none, none, none, none]) ⟨rfl, trivial⟩ (kb_m_ready_191 L0 hf)
def b_m_ready_120 (K52 : Int32 → Int32 → Int32 → Int32 → XH → Option (Int32 × XH)) (x1 : Int32) (x2 : Int32) (x4 : Int32) (y0 : Int32) (h : XH) : Option (Int32 × XH) := (K52 x1 x2 y0 (x4 + 1) h)
set_option maxRecDepth 20000 in
theorem kb_m_ready_120 {l : Launch} {G : XG} {d : Nat} {K52 : Int32 → Int32 → Int32 → Int32 → XH → Option (Int32 × XH)} {x1 : Int32} {x2 : Int32} {x4 : Int32} {y0 : Int32} {h : XH} {r : Int32 × XH} (hK52 : ∀ (x1 : Int32) (x2 : Int32) (x3 : Int32) (x4 : Int32) (h : XH), LY h → K52 x1 x2 x3 x4 h = some r → XR l G xEX12_ready (d + 1) (52, [some (.ref 1262), some (.int x1), some (.int x2), some (.int x3), some (.int x4), none, none, none], [], h) (fun C => ∃ v, xRet xEX12_ready C v ∧ (C.2.2.2 = r.2 ∧ v = some (.int r.1)) ∧ LY r.2)) (L0 : LY h) (hf : b_m_ready_120 K52 x1 x2 x4 y0 h = some r) : XR l G xEX12_ready (d + 1) (120, [some (.ref 1262), some (.int x1), some (.int x2), none, some (.int x4), none, none, none], [(.int y0)], h) (fun C => ∃ v, xRet xEX12_ready C v ∧ (C.2.2.2 = r.2 ∧ v = some (.int r.1)) ∧ LY r.2) := by
  unfold b_m_ready_120 at hf
  refine XS.go (XS.lcl (L3 := [some (.ref 1262), some (.int x1), some (.int x2), some (.int y0), some (.int x4), none, none, none]) (s_istoren rfl rfl (Nat.le_of_ble_eq_true rfl)) rfl) ?_
  refine XS.go (XS.lcl (L3 := [some (.ref 1262), some (.int x1), some (.int x2), some (.int y0), some (.int (x4 + 1)), none, none, none]) (s_inc rfl rfl (Nat.le_of_ble_eq_true rfl)) rfl) ?_
  refine XS.go (s_goto (tgt := 52) rfl rfl) ?_
  exact XR.forget (L2 := [some (.ref 1262), some (.int x1), some (.int x2), some (.int y0), some (.int (x4 + 1)), none, none, none]) ⟨rfl, ⟨rfl, ⟨rfl, ⟨rfl, ⟨rfl, trivial⟩⟩⟩⟩⟩ (hK52 x1 x2 y0 (x4 + 1) _ L0 hf)
def b_m_ready_96 (K52 : Int32 → Int32 → Int32 → Int32 → XH → Option (Int32 × XH)) (x1 : Int32) (x2 : Int32) (x3 : Int32) (x4 : Int32) (y1 : Int32) (y2 : Int32) (h : XH) : Option (Int32 × XH) := (Option.bind (f_m_two y1 y2 h) fun r22 => (if 0 ≤ x4 ∧ x4 < nI 32 then (if ¬ (hi r22.2 1307 (Int32.toNatClampNeg x4)) = 0 then (b_m_ready_120 K52 x1 x2 x4 (6 + (2 * x4)) r22.2) else (b_m_ready_120 K52 x1 x2 x4 x3 r22.2)) else none))
set_option maxRecDepth 20000 in
theorem kb_m_ready_96 {l : Launch} {G : XG} {d : Nat} {K52 : Int32 → Int32 → Int32 → Int32 → XH → Option (Int32 × XH)} {x1 : Int32} {x2 : Int32} {x3 : Int32} {x4 : Int32} {y1 : Int32} {y2 : Int32} {h : XH} {r : Int32 × XH} (hK52 : ∀ (x1 : Int32) (x2 : Int32) (x3 : Int32) (x4 : Int32) (h : XH), LY h → K52 x1 x2 x3 x4 h = some r → XR l G xEX12_ready (d + 1) (52, [some (.ref 1262), some (.int x1), some (.int x2), some (.int x3), some (.int x4), none, none, none], [], h) (fun C => ∃ v, xRet xEX12_ready C v ∧ (C.2.2.2 = r.2 ∧ v = some (.int r.1)) ∧ LY r.2)) (L0 : LY h) (hf : b_m_ready_96 K52 x1 x2 x3 x4 y1 y2 h = some r) : XR l G xEX12_ready (d + 1) (96, [some (.ref 1262), some (.int x1), some (.int x2), some (.int x3), some (.int x4), none, none, none], [(.int y2), (.int y1), (.ref 1262)], h) (fun C => ∃ v, xRet xEX12_ready C v ∧ (C.2.2.2 = r.2 ∧ v = some (.int r.1)) ∧ LY r.2) := by
  unfold b_m_ready_96 at hf
  replace hf := xb_some hf
  obtain ⟨r22, e23, hf⟩ := hf
  refine r_callv rfl xvX12_two xm12_435 (kf_m_two (d := d) L0 e23) (LY.lt L0 (by decide)) (LY.k1262 L0) (by decide) rfl rfl (dl0 (by decide)) (by decide) (Nat.le_of_ble_eq_true rfl) ?_
  rintro _ _ ⟨⟨rfl, rfl⟩, L24⟩
  refine XS.go (s_aloadn rfl rfl rfl) ?_
  refine XS.go (s_getr rfl xf12_148 (LY.lt L24 (by decide)) (LY.k1262 L24) (by decide) rfl (LY.r1262_70 L24)) ?_
  refine XS.go (s_iload rfl rfl) ?_
  replace hf := xi_none hf
  obtain ⟨qk25, hf⟩ := hf
  refine XS.go (s_ialde rfl (LY.lt L24 (by decide)) (LY.k1307 L24) (inLit (LY.n1307 L24) qk25.1 qk25.2 (by decide)) rfl) ?_
  refine r_if_ne (tgt := 113) rfl rfl (fun qc26 => ?_) (fun qc26 => ?_)
  · replace hf := xi_pos hf qc26
    refine XS.go (s_bipush (v := 6) rfl rfl) ?_
    refine XS.go (s_iconst (v := 2) rfl rfl) ?_
    refine XS.go (s_iload rfl rfl) ?_
    refine XS.go (s_imul rfl) ?_
    refine XS.go (s_iadd rfl) ?_
    exact XR.forget (L2 := [some (.ref 1262), some (.int x1), some (.int x2), none, some (.int x4), none, none, none]) ⟨rfl, ⟨rfl, ⟨rfl, ⟨rfl, trivial⟩⟩⟩⟩ (kb_m_ready_120 hK52 L24 hf)
  · replace hf := xi_neg hf qc26
    refine XS.go (s_iloadn rfl rfl rfl) ?_
    refine XS.go (s_goto (tgt := 120) rfl rfl) ?_
    exact XR.forget (L2 := [some (.ref 1262), some (.int x1), some (.int x2), none, some (.int x4), none, none, none]) ⟨rfl, ⟨rfl, ⟨rfl, ⟨rfl, trivial⟩⟩⟩⟩ (kb_m_ready_120 hK52 L24 hf)
def s_m_ready_52 (K52 : Int32 → Int32 → Int32 → Int32 → XH → Option (Int32 × XH)) (x1 : Int32) (x2 : Int32) (x3 : Int32) (x4 : Int32) (h : XH) : Option (Int32 × XH) := (if 0 ≤ (hi h 1262 67) ∧ (hi h 1262 67) < nI 16 then (if (hi h 1284 (Int32.toNatClampNeg (hi h 1262 67))) ≤ x4 then (Option.bind (f_m_two 0 x3 h) fun r29 => (Option.bind (f_m_two 2 (x2 - (hi r29.2 1262 68)) r29.2) fun r32 => (Option.bind (f_m_known x3 r32.2) fun r35 => (Option.bind (f_m_fill x2 x3 2 r35.2) fun r38 => (if (hi r38.2 1262 59) = 300 then (b_m_ready_191 r38.2) else (if ¬ r35.1 = 0 then (b_m_ready_185 x1 x2 x3 r35.1 r38.1 x2 r38.2) else (b_m_ready_185 x1 x2 x3 r35.1 r38.1 ((x2 + r38.1) + x3) r38.2))))))) else (if 0 ≤ x4 ∧ x4 < nI 32 then (if ¬ (hi h 1307 (Int32.toNatClampNeg x4)) = 0 then (b_m_ready_96 K52 x1 x2 x3 x4 (4 + (2 * x4)) (x2 - (hi h 1307 (Int32.toNatClampNeg x4))) h) else (b_m_ready_96 K52 x1 x2 x3 x4 (4 + (2 * x4)) 0 h)) else none)) else none)
set_option maxRecDepth 20000 in
theorem ks_m_ready_52 {l : Launch} {G : XG} {d : Nat} {K52 : Int32 → Int32 → Int32 → Int32 → XH → Option (Int32 × XH)} {x1 : Int32} {x2 : Int32} {x3 : Int32} {x4 : Int32} {h : XH} {r : Int32 × XH} (hK52 : ∀ (x1 : Int32) (x2 : Int32) (x3 : Int32) (x4 : Int32) (h : XH), LY h → K52 x1 x2 x3 x4 h = some r → XR l G xEX12_ready (d + 1) (52, [some (.ref 1262), some (.int x1), some (.int x2), some (.int x3), some (.int x4), none, none, none], [], h) (fun C => ∃ v, xRet xEX12_ready C v ∧ (C.2.2.2 = r.2 ∧ v = some (.int r.1)) ∧ LY r.2)) (L0 : LY h) (hf : s_m_ready_52 K52 x1 x2 x3 x4 h = some r) : XR l G xEX12_ready (d + 1) (52, [some (.ref 1262), some (.int x1), some (.int x2), some (.int x3), some (.int x4), none, none, none], [], h) (fun C => ∃ v, xRet xEX12_ready C v ∧ (C.2.2.2 = r.2 ∧ v = some (.int r.1)) ∧ LY r.2) := by
  unfold s_m_ready_52 at hf
  refine XS.go (s_iload rfl rfl) ?_
  refine XS.go (s_aloadn rfl rfl rfl) ?_
  refine XS.go (s_getr rfl xf12_73 (LY.lt L0 (by decide)) (LY.k1262 L0) (by decide) rfl (LY.r1262_33 L0)) ?_
  refine XS.go (s_aloadn rfl rfl rfl) ?_
  refine XS.go (s_getie rfl xf12_140 (LY.lt L0 (by decide)) (LY.k1262 L0) (by decide) rfl rfl) ?_
  replace hf := xi_none hf
  obtain ⟨qk27, hf⟩ := hf
  refine XS.go (s_ialde rfl (LY.lt L0 (by decide)) (LY.k1284 L0) (inLit (LY.n1284 L0) qk27.1 qk27.2 (by decide)) rfl) ?_
  refine r_icmp_ge (tgt := 127) rfl rfl (fun qc28 => ?_) (fun qc28 => ?_)
  · replace hf := xi_pos hf qc28
    refine XS.go (s_aloadn rfl rfl rfl) ?_
    refine XS.go (s_iconst (v := 0) rfl rfl) ?_
    refine XS.go (s_iloadn rfl rfl rfl) ?_
    replace hf := xb_some hf
    obtain ⟨r29, e30, hf⟩ := hf
    refine r_callv rfl xvX12_two xm12_435 (kf_m_two (d := d) L0 e30) (LY.lt L0 (by decide)) (LY.k1262 L0) (by decide) rfl rfl (dl0 (by decide)) (by decide) (Nat.le_of_ble_eq_true rfl) ?_
    rintro _ _ ⟨⟨rfl, rfl⟩, L31⟩
    refine XS.go (s_aloadn rfl rfl rfl) ?_
    refine XS.go (s_iconst (v := 2) rfl rfl) ?_
    refine XS.go (s_iloadn rfl rfl rfl) ?_
    refine XS.go (s_aloadn rfl rfl rfl) ?_
    refine XS.go (s_getie rfl xf12_426 (LY.lt L31 (by decide)) (LY.k1262 L31) (by decide) rfl rfl) ?_
    refine XS.go (s_isub rfl) ?_
    replace hf := xb_some hf
    obtain ⟨r32, e33, hf⟩ := hf
    refine r_callv rfl xvX12_two xm12_435 (kf_m_two (d := d) L31 e33) (LY.lt L31 (by decide)) (LY.k1262 L31) (by decide) rfl rfl (dl0 (by decide)) (by decide) (Nat.le_of_ble_eq_true rfl) ?_
    rintro _ _ ⟨⟨rfl, rfl⟩, L34⟩
    refine XS.go (s_aloadn rfl rfl rfl) ?_
    refine XS.go (s_iloadn rfl rfl rfl) ?_
    replace hf := xb_some hf
    obtain ⟨r35, e36, hf⟩ := hf
    refine r_callv rfl xvX12_known xm12_438 (kf_m_known (d := d) L34 e36) (LY.lt L34 (by decide)) (LY.k1262 L34) (by decide) rfl rfl (dl0 (by decide)) (by decide) (Nat.le_of_ble_eq_true rfl) ?_
    rintro _ _ ⟨⟨rfl, rfl⟩, L37⟩
    refine XS.go (XS.lcl (L3 := [some (.ref 1262), some (.int x1), some (.int x2), some (.int x3), some (.int r35.1), none, none, none]) (s_istore rfl (Nat.le_of_ble_eq_true rfl)) rfl) ?_
    refine XS.go (s_aloadn rfl rfl rfl) ?_
    refine XS.go (s_iloadn rfl rfl rfl) ?_
    refine XS.go (s_iloadn rfl rfl rfl) ?_
    refine XS.go (s_iconst (v := 2) rfl rfl) ?_
    replace hf := xb_some hf
    obtain ⟨r38, e39, hf⟩ := hf
    refine r_callv rfl xvX12_fill xm12_400 (kf_m_fill (d := d) L37 e39) (LY.lt L37 (by decide)) (LY.k1262 L37) (by decide) rfl rfl (dl0 (by decide)) (by decide) (Nat.le_of_ble_eq_true rfl) ?_
    rintro _ _ ⟨⟨rfl, rfl⟩, L40⟩
    refine XS.go (XS.lcl (L3 := [some (.ref 1262), some (.int x1), some (.int x2), some (.int x3), some (.int r35.1), some (.int r38.1), none, none]) (s_istore rfl (Nat.le_of_ble_eq_true rfl)) rfl) ?_
    refine XS.go (s_aloadn rfl rfl rfl) ?_
    refine XS.go (s_getie rfl xf12_388 (LY.lt L40 (by decide)) (LY.k1262 L40) (by decide) rfl rfl) ?_
    refine XS.go (s_sipush (v := 300) rfl rfl) ?_
    refine r_icmp_eq (tgt := 191) rfl rfl (fun qc41 => ?_) (fun qc41 => ?_)
    · replace hf := xi_pos hf qc41
      exact XR.forget (L2 := [some (.ref 1262), none, none, none, none, none, none, none]) ⟨rfl, trivial⟩ (kb_m_ready_191 L40 hf)
    · replace hf := xi_neg hf qc41
      refine XS.go (s_iload rfl rfl) ?_
      refine r_if_ne (tgt := 184) rfl rfl (fun qc42 => ?_) (fun qc42 => ?_)
      · replace hf := xi_pos hf qc42
        refine XS.go (s_iloadn rfl rfl rfl) ?_
        exact XR.forget (L2 := [some (.ref 1262), some (.int x1), some (.int x2), some (.int x3), some (.int r35.1), some (.int r38.1), none, none]) ⟨rfl, ⟨rfl, ⟨rfl, ⟨rfl, ⟨rfl, ⟨rfl, trivial⟩⟩⟩⟩⟩⟩ (kb_m_ready_185 L40 hf)
      · replace hf := xi_neg hf qc42
        refine XS.go (s_iloadn rfl rfl rfl) ?_
        refine XS.go (s_iload rfl rfl) ?_
        refine XS.go (s_iadd rfl) ?_
        refine XS.go (s_iloadn rfl rfl rfl) ?_
        refine XS.go (s_iadd rfl) ?_
        refine XS.go (s_goto (tgt := 185) rfl rfl) ?_
        exact XR.forget (L2 := [some (.ref 1262), some (.int x1), some (.int x2), some (.int x3), some (.int r35.1), some (.int r38.1), none, none]) ⟨rfl, ⟨rfl, ⟨rfl, ⟨rfl, ⟨rfl, ⟨rfl, trivial⟩⟩⟩⟩⟩⟩ (kb_m_ready_185 L40 hf)
  · replace hf := xi_neg hf qc28
    refine XS.go (s_aloadn rfl rfl rfl) ?_
    refine XS.go (s_iconst (v := 4) rfl rfl) ?_
    refine XS.go (s_iconst (v := 2) rfl rfl) ?_
    refine XS.go (s_iload rfl rfl) ?_
    refine XS.go (s_imul rfl) ?_
    refine XS.go (s_iadd rfl) ?_
    refine XS.go (s_aloadn rfl rfl rfl) ?_
    refine XS.go (s_getr rfl xf12_148 (LY.lt L0 (by decide)) (LY.k1262 L0) (by decide) rfl (LY.r1262_70 L0)) ?_
    refine XS.go (s_iload rfl rfl) ?_
    replace hf := xi_none hf
    obtain ⟨qk43, hf⟩ := hf
    refine XS.go (s_ialde rfl (LY.lt L0 (by decide)) (LY.k1307 L0) (inLit (LY.n1307 L0) qk43.1 qk43.2 (by decide)) rfl) ?_
    refine r_if_ne (tgt := 87) rfl rfl (fun qc44 => ?_) (fun qc44 => ?_)
    · replace hf := xi_pos hf qc44
      refine XS.go (s_iloadn rfl rfl rfl) ?_
      refine XS.go (s_aloadn rfl rfl rfl) ?_
      refine XS.go (s_getr rfl xf12_148 (LY.lt L0 (by decide)) (LY.k1262 L0) (by decide) rfl (LY.r1262_70 L0)) ?_
      refine XS.go (s_iload rfl rfl) ?_
      refine XS.go (s_ialde rfl (LY.lt L0 (by decide)) (LY.k1307 L0) (inLit (LY.n1307 L0) qk43.1 qk43.2 (by decide)) rfl) ?_
      refine XS.go (s_isub rfl) ?_
      exact XR.forget (L2 := [some (.ref 1262), some (.int x1), some (.int x2), some (.int x3), some (.int x4), none, none, none]) ⟨rfl, ⟨rfl, ⟨rfl, ⟨rfl, ⟨rfl, trivial⟩⟩⟩⟩⟩ (kb_m_ready_96 hK52 L0 hf)
    · replace hf := xi_neg hf qc44
      refine XS.go (s_iconst (v := 0) rfl rfl) ?_
      refine XS.go (s_goto (tgt := 96) rfl rfl) ?_
      exact XR.forget (L2 := [some (.ref 1262), some (.int x1), some (.int x2), some (.int x3), some (.int x4), none, none, none]) ⟨rfl, ⟨rfl, ⟨rfl, ⟨rfl, ⟨rfl, trivial⟩⟩⟩⟩⟩ (kb_m_ready_96 hK52 L0 hf)
def b_m_ready_52 : Nat → Int32 → Int32 → Int32 → Int32 → XH → Option (Int32 × XH)
  | 0, _, _, _, _, _ => none
  | n + 1, x1, x2, x3, x4, h => s_m_ready_52 (b_m_ready_52 n) x1 x2 x3 x4 h
theorem kb_m_ready_52 {l : Launch} {G : XG} {d : Nat} {n : Nat} {x1 : Int32} {x2 : Int32} {x3 : Int32} {x4 : Int32} {h : XH} {r : Int32 × XH} (L0 : LY h) (hf : b_m_ready_52 n x1 x2 x3 x4 h = some r) : XR l G xEX12_ready (d + 1) (52, [some (.ref 1262), some (.int x1), some (.int x2), some (.int x3), some (.int x4), none, none, none], [], h) (fun C => ∃ v, xRet xEX12_ready C v ∧ (C.2.2.2 = r.2 ∧ v = some (.int r.1)) ∧ LY r.2) := by
  induction n generalizing x1 x2 x3 x4 h with
  | zero => cases hf
  | succ n ih => exact ks_m_ready_52 (fun x1 x2 x3 x4 h L0 hf => ih (h := h) (x1 := x1) (x2 := x2) (x3 := x3) (x4 := x4) L0 hf) L0 hf
def b_m_ready_20 (h : XH) : Option (Int32 × XH) := (some (0, (hsi h 1262 0 1)))
set_option maxRecDepth 20000 in
theorem kb_m_ready_20 {l : Launch} {G : XG} {d : Nat} {h : XH} {r : Int32 × XH} (L0 : LY h) (hf : b_m_ready_20 h = some r) : XR l G xEX12_ready (d + 1) (20, [some (.ref 1262), none, none, none, none, none, none, none], [], h) (fun C => ∃ v, xRet xEX12_ready C v ∧ (C.2.2.2 = r.2 ∧ v = some (.int r.1)) ∧ LY r.2) := by
  unfold b_m_ready_20 at hf
  refine XS.go (s_aloadn rfl rfl rfl) ?_
  refine XS.go (s_iconst (v := 1) rfl rfl) ?_
  refine XS.go (s_puti rfl xf12_175 (LY.lt L0 (by decide)) (LY.k1262 L0) (by decide) rfl (Or.inl rfl)) ?_
  refine XS.go (s_iconst (v := 0) rfl rfl) ?_
  cases hf
  exact XR.reti rfl rfl (fun hret => ⟨_, hret, ⟨rfl, rfl⟩, (by simp only [LY_si, LY_sj]; exact L0)⟩)
def f_m_ready (h : XH) : Option (Int32 × XH) := (if (hi h 1262 67) = (-1) then (b_m_ready_20 (hsi h 1262 0 0)) else (Option.bind (f_m_lacks (hsi h 1262 0 0)) fun r46 => (if r46.1 = 0 then (Option.bind (f_m_fill (hi r46.2 1262 57) 4 4 r46.2) fun r50 => (b_m_ready_52 100000 r50.1 (((hi r50.2 1262 57) + r50.1) + 4) 4 0 r50.2)) else (b_m_ready_20 r46.2))))
set_option maxRecDepth 20000 in
theorem kf_m_ready {l : Launch} {G : XG} {d : Nat} {h : XH} {r : Int32 × XH} (L0 : LY h) (hf : f_m_ready h = some r) : XC l G xEX12_ready (d + 1) [.ref 1262] h (fun v h2 => (h2 = r.2 ∧ v = some (.int r.1)) ∧ LY r.2) := by
  refine XC.virt xvX12_ready (Nat.le_of_ble_eq_true rfl) ?_
  unfold f_m_ready at hf
  refine XR.norm (L3 := [some (.ref 1262), none, none, none, none, none, none, none]) rfl ?_
  refine XS.go (s_aloadn rfl rfl rfl) ?_
  refine XS.go (s_iconst (v := 0) rfl rfl) ?_
  refine XS.go (s_puti rfl xf12_175 (LY.lt L0 (by decide)) (LY.k1262 L0) (by decide) rfl (Or.inl rfl)) ?_
  refine XS.go (s_aloadn rfl rfl rfl) ?_
  refine XS.go (s_getie rfl xf12_140 (LY.lt (by simp only [LY_si, LY_sj]; exact L0) (by decide)) (LY.k1262 (by simp only [LY_si, LY_sj]; exact L0)) (by decide) rfl (hi_hsi_nk (by decide))) ?_
  refine XS.go (s_iconst (v := (-1)) rfl rfl) ?_
  refine r_icmp_eq (tgt := 20) rfl rfl (fun qc45 => ?_) (fun qc45 => ?_)
  · replace hf := xi_pos hf qc45
    exact XR.forget (L2 := [some (.ref 1262), none, none, none, none, none, none, none]) ⟨rfl, trivial⟩ (kb_m_ready_20 (by simp only [LY_si, LY_sj]; exact L0) hf)
  · replace hf := xi_neg hf qc45
    refine XS.go (s_aloadn rfl rfl rfl) ?_
    replace hf := xb_some hf
    obtain ⟨r46, e47, hf⟩ := hf
    refine r_callv rfl xvX12_lacks xm12_432 (kf_m_lacks (d := d) (by simp only [LY_si, LY_sj]; exact L0) e47) (LY.lt (by simp only [LY_si, LY_sj]; exact L0) (by decide)) (LY.k1262 (by simp only [LY_si, LY_sj]; exact L0)) (by decide) rfl rfl (dl0 (by decide)) (by decide) (Nat.le_of_ble_eq_true rfl) ?_
    rintro _ _ ⟨⟨rfl, rfl⟩, L48⟩
    refine r_if_eq (tgt := 27) rfl rfl (fun qc49 => ?_) (fun qc49 => ?_)
    · replace hf := xi_pos hf qc49
      refine XS.go (s_aloadn rfl rfl rfl) ?_
      refine XS.go (s_aloadn rfl rfl rfl) ?_
      refine XS.go (s_getie rfl xf12_382 (LY.lt L48 (by decide)) (LY.k1262 L48) (by decide) rfl rfl) ?_
      refine XS.go (s_iconst (v := 4) rfl rfl) ?_
      refine XS.go (s_iconst (v := 4) rfl rfl) ?_
      replace hf := xb_some hf
      obtain ⟨r50, e51, hf⟩ := hf
      refine r_callv rfl xvX12_fill xm12_400 (kf_m_fill (d := d) L48 e51) (LY.lt L48 (by decide)) (LY.k1262 L48) (by decide) rfl rfl (dl0 (by decide)) (by decide) (Nat.le_of_ble_eq_true rfl) ?_
      rintro _ _ ⟨⟨rfl, rfl⟩, L52⟩
      refine XS.go (XS.lcl (L3 := [some (.ref 1262), some (.int r50.1), none, none, none, none, none, none]) (s_istoren rfl rfl (Nat.le_of_ble_eq_true rfl)) rfl) ?_
      refine XS.go (s_aloadn rfl rfl rfl) ?_
      refine XS.go (s_getie rfl xf12_382 (LY.lt L52 (by decide)) (LY.k1262 L52) (by decide) rfl rfl) ?_
      refine XS.go (s_iloadn rfl rfl rfl) ?_
      refine XS.go (s_iadd rfl) ?_
      refine XS.go (s_iconst (v := 4) rfl rfl) ?_
      refine XS.go (s_iadd rfl) ?_
      refine XS.go (XS.lcl (L3 := [some (.ref 1262), some (.int r50.1), some (.int (((hi r50.2 1262 57) + r50.1) + 4)), none, none, none, none, none]) (s_istoren rfl rfl (Nat.le_of_ble_eq_true rfl)) rfl) ?_
      refine XS.go (s_iconst (v := 4) rfl rfl) ?_
      refine XS.go (XS.lcl (L3 := [some (.ref 1262), some (.int r50.1), some (.int (((hi r50.2 1262 57) + r50.1) + 4)), some (.int 4), none, none, none, none]) (s_istoren rfl rfl (Nat.le_of_ble_eq_true rfl)) rfl) ?_
      refine XS.go (s_iconst (v := 0) rfl rfl) ?_
      refine XS.go (XS.lcl (L3 := [some (.ref 1262), some (.int r50.1), some (.int (((hi r50.2 1262 57) + r50.1) + 4)), some (.int 4), some (.int 0), none, none, none]) (s_istore rfl (Nat.le_of_ble_eq_true rfl)) rfl) ?_
      exact XR.forget (L2 := [some (.ref 1262), some (.int r50.1), some (.int (((hi r50.2 1262 57) + r50.1) + 4)), some (.int 4), some (.int 0), none, none, none]) ⟨rfl, ⟨rfl, ⟨rfl, ⟨rfl, ⟨rfl, trivial⟩⟩⟩⟩⟩ (kb_m_ready_52 L52 hf)
    · replace hf := xi_neg hf qc49
      exact XR.forget (L2 := [some (.ref 1262), none, none, none, none, none, none, none]) ⟨rfl, trivial⟩ (kb_m_ready_20 L48 hf)
def s_m_finish_104 (K104 : Int32 → XH → Option (Int32 × XH)) (x3 : Int32) (h : XH) : Option (Int32 × XH) := (if (hi h 1262 57) ≤ x3 then (Option.bind (f_m_empty h) fun r2 => (some ((hi r2.2 1262 72), r2.2))) else (if 0 ≤ (((hi h 1262 57) - 1) - x3) ∧ (((hi h 1262 57) - 1) - x3) < nI 4300 then (if 0 ≤ x3 ∧ x3 < nI 4000 then (K104 (x3 + 1) (hsi h 1308 (Int32.toNatClampNeg x3) (hi h 1299 (Int32.toNatClampNeg (((hi h 1262 57) - 1) - x3))))) else none) else none))
set_option maxRecDepth 20000 in
theorem ks_m_finish_104 {l : Launch} {G : XG} {d : Nat} {K104 : Int32 → XH → Option (Int32 × XH)} {x3 : Int32} {h : XH} {r : Int32 × XH} (hK104 : ∀ (x3 : Int32) (h : XH), LY h → K104 x3 h = some r → XR l G xEX12_finish (d + 2) (104, [some (.ref 1262), none, none, some (.int x3)], [], h) (fun C => ∃ v, xRet xEX12_finish C v ∧ (C.2.2.2 = r.2 ∧ v = some (.int r.1)) ∧ LY r.2)) (L0 : LY h) (hf : s_m_finish_104 K104 x3 h = some r) : XR l G xEX12_finish (d + 2) (104, [some (.ref 1262), none, none, some (.int x3)], [], h) (fun C => ∃ v, xRet xEX12_finish C v ∧ (C.2.2.2 = r.2 ∧ v = some (.int r.1)) ∧ LY r.2) := by
  unfold s_m_finish_104 at hf
  refine XS.go (s_iloadn rfl rfl rfl) ?_
  refine XS.go (s_aloadn rfl rfl rfl) ?_
  refine XS.go (s_getie rfl xf12_382 (LY.lt L0 (by decide)) (LY.k1262 L0) (by decide) rfl rfl) ?_
  refine r_icmp_ge (tgt := 137) rfl rfl (fun qc1 => ?_) (fun qc1 => ?_)
  · replace hf := xi_pos hf qc1
    refine XS.go (s_aloadn rfl rfl rfl) ?_
    replace hf := xb_some hf
    obtain ⟨r2, e3, hf⟩ := hf
    refine r_callv rfl xvX12_empty xm12_357 (kf_m_empty (d := d) L0 e3) (LY.lt L0 (by decide)) (LY.k1262 L0) (by decide) rfl rfl (dl0 (by decide)) (by decide) (Nat.le_of_ble_eq_true rfl) ?_
    rintro _ _ ⟨⟨rfl, rfl⟩, L4⟩
    refine XS.go (s_aloadn rfl rfl rfl) ?_
    refine XS.go (s_getie rfl xf12_441 (LY.lt L4 (by decide)) (LY.k1262 L4) (by decide) rfl rfl) ?_
    cases hf
    exact XR.reti rfl rfl (fun hret => ⟨_, hret, ⟨rfl, rfl⟩, L4⟩)
  · replace hf := xi_neg hf qc1
    refine XS.go (s_aloadn rfl rfl rfl) ?_
    refine XS.go (s_getr rfl xf12_151 (LY.lt L0 (by decide)) (LY.k1262 L0) (by decide) rfl (LY.r1262_71 L0)) ?_
    refine XS.go (s_iloadn rfl rfl rfl) ?_
    refine XS.go (s_aloadn rfl rfl rfl) ?_
    refine XS.go (s_getr rfl xf12_119 (LY.lt L0 (by decide)) (LY.k1262 L0) (by decide) rfl (LY.r1262_56 L0)) ?_
    refine XS.go (s_aloadn rfl rfl rfl) ?_
    refine XS.go (s_getie rfl xf12_382 (LY.lt L0 (by decide)) (LY.k1262 L0) (by decide) rfl rfl) ?_
    refine XS.go (s_iconst (v := 1) rfl rfl) ?_
    refine XS.go (s_isub rfl) ?_
    refine XS.go (s_iloadn rfl rfl rfl) ?_
    refine XS.go (s_isub rfl) ?_
    replace hf := xi_none hf
    obtain ⟨qk5, hf⟩ := hf
    refine XS.go (s_ialde rfl (LY.lt L0 (by decide)) (LY.k1299 L0) (inLit (LY.n1299 L0) qk5.1 qk5.2 (by decide)) rfl) ?_
    replace hf := xi_none hf
    obtain ⟨qk6, hf⟩ := hf
    refine XS.go (s_iast rfl (LY.lt L0 (by decide)) (LY.k1308 L0) (inLit (LY.n1308 L0) qk6.1 qk6.2 (by decide))) ?_
    refine XS.go (XS.lcl (L3 := [some (.ref 1262), none, none, some (.int (x3 + 1))]) (s_inc rfl rfl (Nat.le_of_ble_eq_true rfl)) rfl) ?_
    refine XS.go (s_goto (tgt := 104) rfl rfl) ?_
    exact XR.forget (L2 := [some (.ref 1262), none, none, some (.int (x3 + 1))]) ⟨rfl, ⟨rfl, trivial⟩⟩ (hK104 (x3 + 1) _ (by simp only [LY_si, LY_sj]; exact L0) hf)
def b_m_finish_104 : Nat → Int32 → XH → Option (Int32 × XH)
  | 0, _, _ => none
  | n + 1, x3, h => s_m_finish_104 (b_m_finish_104 n) x3 h
theorem kb_m_finish_104 {l : Launch} {G : XG} {d : Nat} {n : Nat} {x3 : Int32} {h : XH} {r : Int32 × XH} (L0 : LY h) (hf : b_m_finish_104 n x3 h = some r) : XR l G xEX12_finish (d + 2) (104, [some (.ref 1262), none, none, some (.int x3)], [], h) (fun C => ∃ v, xRet xEX12_finish C v ∧ (C.2.2.2 = r.2 ∧ v = some (.int r.1)) ∧ LY r.2) := by
  induction n generalizing x3 h with
  | zero => cases hf
  | succ n ih => exact ks_m_finish_104 (fun x3 h L0 hf => ih (h := h) (x3 := x3) L0 hf) L0 hf
def b_m_finish_42 (h : XH) : Option (Int32 × XH) := (some (0, (hsi h 1262 0 2)))
set_option maxRecDepth 20000 in
theorem kb_m_finish_42 {l : Launch} {G : XG} {d : Nat} {h : XH} {r : Int32 × XH} (L0 : LY h) (hf : b_m_finish_42 h = some r) : XR l G xEX12_finish (d + 2) (42, [some (.ref 1262), none, none, none], [], h) (fun C => ∃ v, xRet xEX12_finish C v ∧ (C.2.2.2 = r.2 ∧ v = some (.int r.1)) ∧ LY r.2) := by
  unfold b_m_finish_42 at hf
  refine XS.go (s_aloadn rfl rfl rfl) ?_
  refine XS.go (s_iconst (v := 2) rfl rfl) ?_
  refine XS.go (s_puti rfl xf12_175 (LY.lt L0 (by decide)) (LY.k1262 L0) (by decide) rfl (Or.inl rfl)) ?_
  refine XS.go (s_iconst (v := 0) rfl rfl) ?_
  cases hf
  exact XR.reti rfl rfl (fun hret => ⟨_, hret, ⟨rfl, rfl⟩, (by simp only [LY_si, LY_sj]; exact L0)⟩)
def f_m_finish (a0 : Int32) (h : XH) : Option (Int32 × XH) := (if (hi h 1262 67) = (-1) then (if (hi h 1262 7) = 0 then (b_m_finish_42 (hsi h 1262 0 0)) else (Option.bind (f_m_isThing (Int32.toInt64 a0) 3 (-1) (hi h 1262 45) (hsi h 1262 0 0)) fun r9 => (if ¬ r9.1 = 0 then (Option.bind (f_m_fill (hi r9.2 1262 57) 4 (hi r9.2 1262 58) r9.2) fun r13 => (if (((hi r13.2 1262 57) + r13.1) + 4) ≤ 4000 then (Option.bind (f_m_zeros r13.1 r13.2) fun r17 => (Option.bind (f_m_reference a0 r17.2) fun r20 => (b_m_finish_104 100000 0 (hsi r20.2 1262 72 (hi r20.2 1262 57))))) else (some (0, (hsi r13.2 1262 0 3))))) else (b_m_finish_42 r9.2)))) else (some (0, (hsi (hsi h 1262 0 0) 1262 0 1))))
set_option maxRecDepth 20000 in
theorem kf_m_finish {l : Launch} {G : XG} {d : Nat} {a0 : Int32} {h : XH} {r : Int32 × XH} (L0 : LY h) (hf : f_m_finish a0 h = some r) : XC l G xEX12_finish (d + 2) [.ref 1262, .int a0] h (fun v h2 => (h2 = r.2 ∧ v = some (.int r.1)) ∧ LY r.2) := by
  refine XC.virt xvX12_finish (Nat.le_of_ble_eq_true rfl) ?_
  unfold f_m_finish at hf
  refine XR.norm (L3 := [some (.ref 1262), some (.int a0), none, none]) rfl ?_
  refine XS.go (s_aloadn rfl rfl rfl) ?_
  refine XS.go (s_iconst (v := 0) rfl rfl) ?_
  refine XS.go (s_puti rfl xf12_175 (LY.lt L0 (by decide)) (LY.k1262 L0) (by decide) rfl (Or.inl rfl)) ?_
  refine XS.go (s_aloadn rfl rfl rfl) ?_
  refine XS.go (s_getie rfl xf12_140 (LY.lt (by simp only [LY_si, LY_sj]; exact L0) (by decide)) (LY.k1262 (by simp only [LY_si, LY_sj]; exact L0)) (by decide) rfl (hi_hsi_nk (by decide))) ?_
  refine XS.go (s_iconst (v := (-1)) rfl rfl) ?_
  refine r_icmp_eq (tgt := 20) rfl rfl (fun qc7 => ?_) (fun qc7 => ?_)
  · replace hf := xi_pos hf qc7
    refine XS.go (s_aloadn rfl rfl rfl) ?_
    refine XS.go (s_getze rfl xf12_353 (LY.lt (by simp only [LY_si, LY_sj]; exact L0) (by decide)) (LY.k1262 (by simp only [LY_si, LY_sj]; exact L0)) (by decide) rfl (hi_hsi_nk (by decide))) ?_
    refine r_if_eq (tgt := 42) rfl rfl (fun qc8 => ?_) (fun qc8 => ?_)
    · replace hf := xi_pos hf qc8
      exact XR.forget (L2 := [some (.ref 1262), none, none, none]) ⟨rfl, trivial⟩ (kb_m_finish_42 (by simp only [LY_si, LY_sj]; exact L0) hf)
    · replace hf := xi_neg hf qc8
      refine XS.go (s_aloadn rfl rfl rfl) ?_
      refine XS.go (s_iloadn rfl rfl rfl) ?_
      refine XS.go (s_i2l rfl) ?_
      refine XS.go (s_iconst (v := 3) rfl rfl) ?_
      refine XS.go (s_iconst (v := (-1)) rfl rfl) ?_
      refine XS.go (s_aloadn rfl rfl rfl) ?_
      refine XS.go (s_getie rfl xf12_338 (LY.lt (by simp only [LY_si, LY_sj]; exact L0) (by decide)) (LY.k1262 (by simp only [LY_si, LY_sj]; exact L0)) (by decide) rfl (hi_hsi_nk (by decide))) ?_
      replace hf := xb_some hf
      obtain ⟨r9, e10, hf⟩ := hf
      refine r_callv rfl xvX12_isThing xm12_416 (kf_m_isThing (d := d) (by simp only [LY_si, LY_sj]; exact L0) e10) (LY.lt (by simp only [LY_si, LY_sj]; exact L0) (by decide)) (LY.k1262 (by simp only [LY_si, LY_sj]; exact L0)) (by decide) rfl rfl (dl0 (by decide)) (by decide) (Nat.le_of_ble_eq_true rfl) ?_
      rintro _ _ ⟨⟨rfl, rfl⟩, L11⟩
      refine r_if_ne (tgt := 49) rfl rfl (fun qc12 => ?_) (fun qc12 => ?_)
      · replace hf := xi_pos hf qc12
        refine XS.go (s_aloadn rfl rfl rfl) ?_
        refine XS.go (s_aloadn rfl rfl rfl) ?_
        refine XS.go (s_getie rfl xf12_382 (LY.lt L11 (by decide)) (LY.k1262 L11) (by decide) rfl rfl) ?_
        refine XS.go (s_iconst (v := 4) rfl rfl) ?_
        refine XS.go (s_aloadn rfl rfl rfl) ?_
        refine XS.go (s_getie rfl xf12_385 (LY.lt L11 (by decide)) (LY.k1262 L11) (by decide) rfl rfl) ?_
        replace hf := xb_some hf
        obtain ⟨r13, e14, hf⟩ := hf
        refine r_callv rfl xvX12_fill xm12_400 (kf_m_fill (d := d) L11 e14) (LY.lt L11 (by decide)) (LY.k1262 L11) (by decide) rfl rfl (dl0 (by decide)) (by decide) (Nat.le_of_ble_eq_true rfl) ?_
        rintro _ _ ⟨⟨rfl, rfl⟩, L15⟩
        refine XS.go (XS.lcl (L3 := [some (.ref 1262), some (.int a0), some (.int r13.1), none]) (s_istoren rfl rfl (Nat.le_of_ble_eq_true rfl)) rfl) ?_
        refine XS.go (s_aloadn rfl rfl rfl) ?_
        refine XS.go (s_getie rfl xf12_382 (LY.lt L15 (by decide)) (LY.k1262 L15) (by decide) rfl rfl) ?_
        refine XS.go (s_iloadn rfl rfl rfl) ?_
        refine XS.go (s_iadd rfl) ?_
        refine XS.go (s_iconst (v := 4) rfl rfl) ?_
        refine XS.go (s_iadd rfl) ?_
        refine XS.go (s_sipush (v := 4000) rfl rfl) ?_
        refine r_icmp_le (tgt := 84) rfl rfl (fun qc16 => ?_) (fun qc16 => ?_)
        · replace hf := xi_pos hf qc16
          refine XS.go (s_aloadn rfl rfl rfl) ?_
          refine XS.go (s_iloadn rfl rfl rfl) ?_
          replace hf := xb_some hf
          obtain ⟨r17, e18, hf⟩ := hf
          refine r_callv rfl xvX12_zeros xm12_407 (kf_m_zeros (d := d) L15 e18) (LY.lt L15 (by decide)) (LY.k1262 L15) (by decide) rfl rfl (dl0 (by decide)) (by decide) (Nat.le_of_ble_eq_true rfl) ?_
          rintro _ _ ⟨⟨rfl, rfl⟩, L19⟩
          refine XS.go (s_aloadn rfl rfl rfl) ?_
          refine XS.go (s_iloadn rfl rfl rfl) ?_
          replace hf := xb_some hf
          obtain ⟨r20, e21, hf⟩ := hf
          refine r_callv rfl xvX12_reference xm12_423 (kf_m_reference (d := d) L19 e21) (LY.lt L19 (by decide)) (LY.k1262 L19) (by decide) rfl rfl (dl (by decide)) (by decide) (Nat.le_of_ble_eq_true rfl) ?_
          rintro _ _ ⟨⟨rfl, rfl⟩, L22⟩
          refine XS.go (s_aloadn rfl rfl rfl) ?_
          refine XS.go (s_aloadn rfl rfl rfl) ?_
          refine XS.go (s_getie rfl xf12_382 (LY.lt L22 (by decide)) (LY.k1262 L22) (by decide) rfl rfl) ?_
          refine XS.go (s_puti rfl xf12_441 (LY.lt L22 (by decide)) (LY.k1262 L22) (by decide) rfl (Or.inl rfl)) ?_
          refine XS.go (s_iconst (v := 0) rfl rfl) ?_
          refine XS.go (XS.lcl (L3 := [some (.ref 1262), some (.int a0), some (.int r13.1), some (.int 0)]) (s_istoren rfl rfl (Nat.le_of_ble_eq_true rfl)) rfl) ?_
          exact XR.forget (L2 := [some (.ref 1262), none, none, some (.int 0)]) ⟨rfl, ⟨rfl, trivial⟩⟩ (kb_m_finish_104 (by simp only [LY_si, LY_sj]; exact L22) hf)
        · replace hf := xi_neg hf qc16
          refine XS.go (s_aloadn rfl rfl rfl) ?_
          refine XS.go (s_iconst (v := 3) rfl rfl) ?_
          refine XS.go (s_puti rfl xf12_175 (LY.lt L15 (by decide)) (LY.k1262 L15) (by decide) rfl (Or.inl rfl)) ?_
          refine XS.go (s_iconst (v := 0) rfl rfl) ?_
          cases hf
          exact XR.reti rfl rfl (fun hret => ⟨_, hret, ⟨rfl, rfl⟩, (by simp only [LY_si, LY_sj]; exact L15)⟩)
      · replace hf := xi_neg hf qc12
        exact XR.forget (L2 := [some (.ref 1262), none, none, none]) ⟨rfl, trivial⟩ (kb_m_finish_42 L11 hf)
  · replace hf := xi_neg hf qc7
    refine XS.go (s_aloadn rfl rfl rfl) ?_
    refine XS.go (s_iconst (v := 1) rfl rfl) ?_
    refine XS.go (s_puti rfl xf12_175 (LY.lt (by simp only [LY_si, LY_sj]; exact L0) (by decide)) (LY.k1262 (by simp only [LY_si, LY_sj]; exact L0)) (by decide) rfl (Or.inl rfl)) ?_
    refine XS.go (s_iconst (v := 0) rfl rfl) ?_
    cases hf
    exact XR.reti rfl rfl (fun hret => ⟨_, hret, ⟨rfl, rfl⟩, (by simp only [LY_si, LY_sj]; exact L0)⟩)
def f_m_clear (h : XH) : Option (Int32 × XH) := (Option.bind (f_m_empty (hsi h 1262 0 0)) fun r1 => (some ((hi h 1262 57), r1.2)))
set_option maxRecDepth 20000 in
theorem kf_m_clear {l : Launch} {G : XG} {d : Nat} {h : XH} {r : Int32 × XH} (L0 : LY h) (hf : f_m_clear h = some r) : XC l G xEX12_clear (d + 1) [.ref 1262] h (fun v h2 => (h2 = r.2 ∧ v = some (.int r.1)) ∧ LY r.2) := by
  refine XC.virt xvX12_clear (Nat.le_of_ble_eq_true rfl) ?_
  unfold f_m_clear at hf
  refine XR.norm (L3 := [some (.ref 1262), none]) rfl ?_
  refine XS.go (s_aloadn rfl rfl rfl) ?_
  refine XS.go (s_iconst (v := 0) rfl rfl) ?_
  refine XS.go (s_puti rfl xf12_175 (LY.lt L0 (by decide)) (LY.k1262 L0) (by decide) rfl (Or.inl rfl)) ?_
  refine XS.go (s_aloadn rfl rfl rfl) ?_
  refine XS.go (s_getie rfl xf12_382 (LY.lt (by simp only [LY_si, LY_sj]; exact L0) (by decide)) (LY.k1262 (by simp only [LY_si, LY_sj]; exact L0)) (by decide) rfl (hi_hsi_nk (by decide))) ?_
  refine XS.go (XS.lcl (L3 := [some (.ref 1262), some (.int (hi h 1262 57))]) (s_istoren rfl rfl (Nat.le_of_ble_eq_true rfl)) rfl) ?_
  refine XS.go (s_aloadn rfl rfl rfl) ?_
  replace hf := xb_some hf
  obtain ⟨r1, e2, hf⟩ := hf
  refine r_callv rfl xvX12_empty xm12_357 (kf_m_empty (d := d) (by simp only [LY_si, LY_sj]; exact L0) e2) (LY.lt (by simp only [LY_si, LY_sj]; exact L0) (by decide)) (LY.k1262 (by simp only [LY_si, LY_sj]; exact L0)) (by decide) rfl rfl (dl0 (by decide)) (by decide) (Nat.le_of_ble_eq_true rfl) ?_
  rintro _ _ ⟨⟨rfl, rfl⟩, L3⟩
  refine XS.go (s_iloadn rfl rfl rfl) ?_
  cases hf
  exact XR.reti rfl rfl (fun hret => ⟨_, hret, ⟨rfl, rfl⟩, L3⟩)
def f_m_out (a0 : Int32) (h : XH) : Option (Int32 × XH) := (if a0 < 0 then (some ((-1), (hsi h 1262 0 0))) else (if (hi h 1262 72) ≤ a0 then (some ((-1), (hsi h 1262 0 0))) else (if 0 ≤ a0 ∧ a0 < nI 4000 then (some ((hi h 1308 (Int32.toNatClampNeg a0)), (hsi h 1262 0 0))) else none)))
set_option maxRecDepth 20000 in
theorem kf_m_out {l : Launch} {G : XG} {d : Nat} {a0 : Int32} {h : XH} {r : Int32 × XH} (L0 : LY h) (hf : f_m_out a0 h = some r) : XC l G xEX12_out d [.ref 1262, .int a0] h (fun v h2 => (h2 = r.2 ∧ v = some (.int r.1)) ∧ LY r.2) := by
  refine XC.virt xvX12_out (Nat.le_of_ble_eq_true rfl) ?_
  unfold f_m_out at hf
  refine XR.norm (L3 := [some (.ref 1262), some (.int a0)]) rfl ?_
  refine XS.go (s_aloadn rfl rfl rfl) ?_
  refine XS.go (s_iconst (v := 0) rfl rfl) ?_
  refine XS.go (s_puti rfl xf12_175 (LY.lt L0 (by decide)) (LY.k1262 L0) (by decide) rfl (Or.inl rfl)) ?_
  refine XS.go (s_iloadn rfl rfl rfl) ?_
  refine r_if_lt (tgt := 26) rfl rfl (fun qc1 => ?_) (fun qc1 => ?_)
  · replace hf := xi_pos hf qc1
    refine XS.go (s_iconst (v := (-1)) rfl rfl) ?_
    cases hf
    exact XR.reti rfl rfl (fun hret => ⟨_, hret, ⟨rfl, rfl⟩, (by simp only [LY_si, LY_sj]; exact L0)⟩)
  · replace hf := xi_neg hf qc1
    refine XS.go (s_iloadn rfl rfl rfl) ?_
    refine XS.go (s_aloadn rfl rfl rfl) ?_
    refine XS.go (s_getie rfl xf12_441 (LY.lt (by simp only [LY_si, LY_sj]; exact L0) (by decide)) (LY.k1262 (by simp only [LY_si, LY_sj]; exact L0)) (by decide) rfl (hi_hsi_nk (by decide))) ?_
    refine r_icmp_ge (tgt := 26) rfl rfl (fun qc2 => ?_) (fun qc2 => ?_)
    · replace hf := xi_pos hf qc2
      refine XS.go (s_iconst (v := (-1)) rfl rfl) ?_
      cases hf
      exact XR.reti rfl rfl (fun hret => ⟨_, hret, ⟨rfl, rfl⟩, (by simp only [LY_si, LY_sj]; exact L0)⟩)
    · replace hf := xi_neg hf qc2
      refine XS.go (s_aloadn rfl rfl rfl) ?_
      refine XS.go (s_getr rfl xf12_151 (LY.lt (by simp only [LY_si, LY_sj]; exact L0) (by decide)) (LY.k1262 (by simp only [LY_si, LY_sj]; exact L0)) (by decide) rfl (LY.r1262_71 (by simp only [LY_si, LY_sj]; exact L0))) ?_
      refine XS.go (s_iloadn rfl rfl rfl) ?_
      replace hf := xi_none hf
      obtain ⟨qk3, hf⟩ := hf
      refine XS.go (s_ialde rfl (LY.lt (by simp only [LY_si, LY_sj]; exact L0) (by decide)) (LY.k1308 (by simp only [LY_si, LY_sj]; exact L0)) (inLit (LY.n1308 (by simp only [LY_si, LY_sj]; exact L0)) qk3.1 qk3.2 (by decide)) (hi_hsi_na (by decide))) ?_
      refine XS.go (s_goto (tgt := 27) rfl rfl) ?_
      cases hf
      exact XR.reti rfl rfl (fun hret => ⟨_, hret, ⟨rfl, rfl⟩, (by simp only [LY_si, LY_sj]; exact L0)⟩)
def f_m_count (a0 : Int32) (h : XH) : Option (Int32 × XH) := (if a0 = 0 then (some ((hi h 1262 2), (hsi h 1262 0 0))) else (if a0 = 1 then (some ((hi h 1262 55), (hsi h 1262 0 0))) else (if a0 = 2 then (some ((hi h 1262 57), (hsi h 1262 0 0))) else (if a0 = 3 then (some ((hi h 1262 59), (hsi h 1262 0 0))) else (if a0 = 4 then (some ((hi h 1262 67), (hsi h 1262 0 0))) else (if a0 = 5 then (some ((hi h 1262 72), (hsi h 1262 0 0))) else (if a0 = 6 then (if (hi h 1262 81) = 0 then (some (0, (hsi h 1262 0 0))) else (some ((hi h 1262 80), (hsi h 1262 0 0)))) else (if a0 = 7 then (some ((hi h 1262 64), (hsi h 1262 0 0))) else (if a0 = 8 then (some ((hi h 1262 82), (hsi h 1262 0 0))) else (some ((-1), (hsi h 1262 0 0))))))))))))
set_option maxRecDepth 20000 in
theorem kf_m_count {l : Launch} {G : XG} {d : Nat} {a0 : Int32} {h : XH} {r : Int32 × XH} (L0 : LY h) (hf : f_m_count a0 h = some r) : XC l G xEX12_count d [.ref 1262, .int a0] h (fun v h2 => (h2 = r.2 ∧ v = some (.int r.1)) ∧ LY r.2) := by
  refine XC.virt xvX12_count (Nat.le_of_ble_eq_true rfl) ?_
  unfold f_m_count at hf
  refine XR.norm (L3 := [some (.ref 1262), some (.int a0)]) rfl ?_
  refine XS.go (s_aloadn rfl rfl rfl) ?_
  refine XS.go (s_iconst (v := 0) rfl rfl) ?_
  refine XS.go (s_puti rfl xf12_175 (LY.lt L0 (by decide)) (LY.k1262 L0) (by decide) rfl (Or.inl rfl)) ?_
  refine XS.go (s_iloadn rfl rfl rfl) ?_
  by_cases qs1_0 : a0 = 0
  · replace hf := xi_pos hf qs1_0
    refine XS.go (s_tswI (tgt := 56) rfl (by rw [qs1_0]; decide) (by rw [qs1_0]; decide) (by rw [qs1_0]; rfl) rfl) ?_
    refine XS.go (s_aloadn rfl rfl rfl) ?_
    refine XS.go (s_getie rfl xf12_178 (LY.lt (by simp only [LY_si, LY_sj]; exact L0) (by decide)) (LY.k1262 (by simp only [LY_si, LY_sj]; exact L0)) (by decide) rfl (hi_hsi_nk (by decide))) ?_
    cases hf
    exact XR.reti rfl rfl (fun hret => ⟨_, hret, ⟨rfl, rfl⟩, (by simp only [LY_si, LY_sj]; exact L0)⟩)
  replace hf := xi_neg hf qs1_0
  by_cases qs1_1 : a0 = 1
  · replace hf := xi_pos hf qs1_1
    refine XS.go (s_tswI (tgt := 61) rfl (by rw [qs1_1]; decide) (by rw [qs1_1]; decide) (by rw [qs1_1]; rfl) rfl) ?_
    refine XS.go (s_aloadn rfl rfl rfl) ?_
    refine XS.go (s_getie rfl xf12_379 (LY.lt (by simp only [LY_si, LY_sj]; exact L0) (by decide)) (LY.k1262 (by simp only [LY_si, LY_sj]; exact L0)) (by decide) rfl (hi_hsi_nk (by decide))) ?_
    cases hf
    exact XR.reti rfl rfl (fun hret => ⟨_, hret, ⟨rfl, rfl⟩, (by simp only [LY_si, LY_sj]; exact L0)⟩)
  replace hf := xi_neg hf qs1_1
  by_cases qs1_2 : a0 = 2
  · replace hf := xi_pos hf qs1_2
    refine XS.go (s_tswI (tgt := 66) rfl (by rw [qs1_2]; decide) (by rw [qs1_2]; decide) (by rw [qs1_2]; rfl) rfl) ?_
    refine XS.go (s_aloadn rfl rfl rfl) ?_
    refine XS.go (s_getie rfl xf12_382 (LY.lt (by simp only [LY_si, LY_sj]; exact L0) (by decide)) (LY.k1262 (by simp only [LY_si, LY_sj]; exact L0)) (by decide) rfl (hi_hsi_nk (by decide))) ?_
    cases hf
    exact XR.reti rfl rfl (fun hret => ⟨_, hret, ⟨rfl, rfl⟩, (by simp only [LY_si, LY_sj]; exact L0)⟩)
  replace hf := xi_neg hf qs1_2
  by_cases qs1_3 : a0 = 3
  · replace hf := xi_pos hf qs1_3
    refine XS.go (s_tswI (tgt := 71) rfl (by rw [qs1_3]; decide) (by rw [qs1_3]; decide) (by rw [qs1_3]; rfl) rfl) ?_
    refine XS.go (s_aloadn rfl rfl rfl) ?_
    refine XS.go (s_getie rfl xf12_388 (LY.lt (by simp only [LY_si, LY_sj]; exact L0) (by decide)) (LY.k1262 (by simp only [LY_si, LY_sj]; exact L0)) (by decide) rfl (hi_hsi_nk (by decide))) ?_
    cases hf
    exact XR.reti rfl rfl (fun hret => ⟨_, hret, ⟨rfl, rfl⟩, (by simp only [LY_si, LY_sj]; exact L0)⟩)
  replace hf := xi_neg hf qs1_3
  by_cases qs1_4 : a0 = 4
  · replace hf := xi_pos hf qs1_4
    refine XS.go (s_tswI (tgt := 76) rfl (by rw [qs1_4]; decide) (by rw [qs1_4]; decide) (by rw [qs1_4]; rfl) rfl) ?_
    refine XS.go (s_aloadn rfl rfl rfl) ?_
    refine XS.go (s_getie rfl xf12_140 (LY.lt (by simp only [LY_si, LY_sj]; exact L0) (by decide)) (LY.k1262 (by simp only [LY_si, LY_sj]; exact L0)) (by decide) rfl (hi_hsi_nk (by decide))) ?_
    cases hf
    exact XR.reti rfl rfl (fun hret => ⟨_, hret, ⟨rfl, rfl⟩, (by simp only [LY_si, LY_sj]; exact L0)⟩)
  replace hf := xi_neg hf qs1_4
  by_cases qs1_5 : a0 = 5
  · replace hf := xi_pos hf qs1_5
    refine XS.go (s_tswI (tgt := 81) rfl (by rw [qs1_5]; decide) (by rw [qs1_5]; decide) (by rw [qs1_5]; rfl) rfl) ?_
    refine XS.go (s_aloadn rfl rfl rfl) ?_
    refine XS.go (s_getie rfl xf12_441 (LY.lt (by simp only [LY_si, LY_sj]; exact L0) (by decide)) (LY.k1262 (by simp only [LY_si, LY_sj]; exact L0)) (by decide) rfl (hi_hsi_nk (by decide))) ?_
    cases hf
    exact XR.reti rfl rfl (fun hret => ⟨_, hret, ⟨rfl, rfl⟩, (by simp only [LY_si, LY_sj]; exact L0)⟩)
  replace hf := xi_neg hf qs1_5
  by_cases qs1_6 : a0 = 6
  · replace hf := xi_pos hf qs1_6
    refine XS.go (s_tswI (tgt := 86) rfl (by rw [qs1_6]; decide) (by rw [qs1_6]; decide) (by rw [qs1_6]; rfl) rfl) ?_
    refine XS.go (s_aloadn rfl rfl rfl) ?_
    refine XS.go (s_getze rfl xf12_360 (LY.lt (by simp only [LY_si, LY_sj]; exact L0) (by decide)) (LY.k1262 (by simp only [LY_si, LY_sj]; exact L0)) (by decide) rfl (hi_hsi_nk (by decide))) ?_
    refine r_if_eq (tgt := 100) rfl rfl (fun qc2 => ?_) (fun qc2 => ?_)
    · replace hf := xi_pos hf qc2
      refine XS.go (s_iconst (v := 0) rfl rfl) ?_
      cases hf
      exact XR.reti rfl rfl (fun hret => ⟨_, hret, ⟨rfl, rfl⟩, (by simp only [LY_si, LY_sj]; exact L0)⟩)
    · replace hf := xi_neg hf qc2
      refine XS.go (s_aloadn rfl rfl rfl) ?_
      refine XS.go (s_getie rfl xf12_444 (LY.lt (by simp only [LY_si, LY_sj]; exact L0) (by decide)) (LY.k1262 (by simp only [LY_si, LY_sj]; exact L0)) (by decide) rfl (hi_hsi_nk (by decide))) ?_
      refine XS.go (s_goto (tgt := 101) rfl rfl) ?_
      cases hf
      exact XR.reti rfl rfl (fun hret => ⟨_, hret, ⟨rfl, rfl⟩, (by simp only [LY_si, LY_sj]; exact L0)⟩)
  replace hf := xi_neg hf qs1_6
  by_cases qs1_7 : a0 = 7
  · replace hf := xi_pos hf qs1_7
    refine XS.go (s_tswI (tgt := 102) rfl (by rw [qs1_7]; decide) (by rw [qs1_7]; decide) (by rw [qs1_7]; rfl) rfl) ?_
    refine XS.go (s_aloadn rfl rfl rfl) ?_
    refine XS.go (s_getie rfl xf12_391 (LY.lt (by simp only [LY_si, LY_sj]; exact L0) (by decide)) (LY.k1262 (by simp only [LY_si, LY_sj]; exact L0)) (by decide) rfl (hi_hsi_nk (by decide))) ?_
    cases hf
    exact XR.reti rfl rfl (fun hret => ⟨_, hret, ⟨rfl, rfl⟩, (by simp only [LY_si, LY_sj]; exact L0)⟩)
  replace hf := xi_neg hf qs1_7
  by_cases qs1_8 : a0 = 8
  · replace hf := xi_pos hf qs1_8
    refine XS.go (s_tswI (tgt := 107) rfl (by rw [qs1_8]; decide) (by rw [qs1_8]; decide) (by rw [qs1_8]; rfl) rfl) ?_
    refine XS.go (s_aloadn rfl rfl rfl) ?_
    refine XS.go (s_getie rfl xf12_447 (LY.lt (by simp only [LY_si, LY_sj]; exact L0) (by decide)) (LY.k1262 (by simp only [LY_si, LY_sj]; exact L0)) (by decide) rfl (hi_hsi_nk (by decide))) ?_
    cases hf
    exact XR.reti rfl rfl (fun hret => ⟨_, hret, ⟨rfl, rfl⟩, (by simp only [LY_si, LY_sj]; exact L0)⟩)
  replace hf := xi_neg hf qs1_8
  have qs1_o : (a0).toInt < 0 ∨ 8 < (a0).toInt := by
    refine tsw_out 0 8 (by decide) ?_
    intro k h1 h2
    have z : k = 0 ∨ k = 1 ∨ k = 2 ∨ k = 3 ∨ k = 4 ∨ k = 5 ∨ k = 6 ∨ k = 7 ∨ k = 8 := by omega
    rcases z with rfl | rfl | rfl | rfl | rfl | rfl | rfl | rfl | rfl
    · exact qs1_0
    · exact qs1_1
    · exact qs1_2
    · exact qs1_3
    · exact qs1_4
    · exact qs1_5
    · exact qs1_6
    · exact qs1_7
    · exact qs1_8
  refine XS.go (s_tswO (tgt := 112) rfl qs1_o rfl) ?_
  refine XS.go (s_iconst (v := (-1)) rfl rfl) ?_
  cases hf
  exact XR.reti rfl rfl (fun hret => ⟨_, hret, ⟨rfl, rfl⟩, (by simp only [LY_si, LY_sj]; exact L0)⟩)
def f_m_wrong (a0 : Int32) (a1 : Int32) (h : XH) : Option (Unit × XH) := (if ¬ (hi h 1262 76) = 0 then (some ((), h)) else (some ((), (hsi (hsi h 1262 76 a0) 1262 77 a1))))
set_option maxRecDepth 20000 in
theorem kf_m_wrong {l : Launch} {G : XG} {d : Nat} {a0 : Int32} {a1 : Int32} {h : XH} {r : Unit × XH} (L0 : LY h) (hf : f_m_wrong a0 a1 h = some r) : XC l G xEX12_wrong d [.ref 1262, .int a0, .int a1] h (fun v h2 => (h2 = r.2 ∧ v = none) ∧ LY r.2) := by
  refine XC.virt xvX12_wrong (Nat.le_of_ble_eq_true rfl) ?_
  unfold f_m_wrong at hf
  refine XR.norm (L3 := [some (.ref 1262), some (.int a0), some (.int a1)]) rfl ?_
  refine XS.go (s_aloadn rfl rfl rfl) ?_
  refine XS.go (s_getie rfl xf12_450 (LY.lt L0 (by decide)) (LY.k1262 L0) (by decide) rfl rfl) ?_
  refine r_if_ne (tgt := 17) rfl rfl (fun qc1 => ?_) (fun qc1 => ?_)
  · replace hf := xi_pos hf qc1
    cases hf
    exact XR.retv rfl rfl (fun hret => ⟨_, hret, ⟨rfl, rfl⟩, L0⟩)
  · replace hf := xi_neg hf qc1
    refine XS.go (s_aloadn rfl rfl rfl) ?_
    refine XS.go (s_iloadn rfl rfl rfl) ?_
    refine XS.go (s_puti rfl xf12_450 (LY.lt L0 (by decide)) (LY.k1262 L0) (by decide) rfl (Or.inl rfl)) ?_
    refine XS.go (s_aloadn rfl rfl rfl) ?_
    refine XS.go (s_iloadn rfl rfl rfl) ?_
    refine XS.go (s_puti rfl xf12_453 (LY.lt (by simp only [LY_si, LY_sj]; exact L0) (by decide)) (LY.k1262 (by simp only [LY_si, LY_sj]; exact L0)) (by decide) rfl (Or.inl rfl)) ?_
    cases hf
    exact XR.retv rfl rfl (fun hret => ⟨_, hret, ⟨rfl, rfl⟩, (by simp only [LY_si, LY_sj]; exact L0)⟩)
def s_m_number_7 (K7 : Int32 → Int64 → Int32 → XH → Option (Int64 × XH)) (x1 : Int32) (x3 : Int64) (x5 : Int32) (h : XH) : Option (Int64 × XH) := (if x5 < 0 then (some (x3, h)) else (if 0 ≤ (x1 + x5) ∧ (x1 + x5) < nI 4000 then (K7 x1 ((x3 <<< ((Int32.toInt64 8) &&& 63)) ||| (Int32.toInt64 (hi h 1310 (Int32.toNatClampNeg (x1 + x5))))) (x5 + (-1)) h) else none))
set_option maxRecDepth 20000 in
theorem ks_m_number_7 {l : Launch} {G : XG} {d : Nat} {K7 : Int32 → Int64 → Int32 → XH → Option (Int64 × XH)} {x1 : Int32} {x3 : Int64} {x5 : Int32} {h : XH} {r : Int64 × XH} (hK7 : ∀ (x1 : Int32) (x3 : Int64) (x5 : Int32) (h : XH), LY h → K7 x1 x3 x5 h = some r → XR l G xEX12_number d (7, [some (.ref 1262), some (.int x1), none, some (.long x3), none, some (.int x5)], [], h) (fun C => ∃ v, xRet xEX12_number C v ∧ (C.2.2.2 = r.2 ∧ v = some (.long r.1)) ∧ LY r.2)) (L0 : LY h) (hf : s_m_number_7 K7 x1 x3 x5 h = some r) : XR l G xEX12_number d (7, [some (.ref 1262), some (.int x1), none, some (.long x3), none, some (.int x5)], [], h) (fun C => ∃ v, xRet xEX12_number C v ∧ (C.2.2.2 = r.2 ∧ v = some (.long r.1)) ∧ LY r.2) := by
  unfold s_m_number_7 at hf
  refine XS.go (s_iload rfl rfl) ?_
  refine r_if_lt (tgt := 34) rfl rfl (fun qc1 => ?_) (fun qc1 => ?_)
  · replace hf := xi_pos hf qc1
    refine XS.go (s_lloadn rfl rfl rfl) ?_
    cases hf
    exact XR.retl rfl rfl (fun hret => ⟨_, hret, ⟨rfl, rfl⟩, L0⟩)
  · replace hf := xi_neg hf qc1
    refine XS.go (s_lloadn rfl rfl rfl) ?_
    refine XS.go (s_bipush (v := 8) rfl rfl) ?_
    refine XS.go (s_lshl rfl) ?_
    refine XS.go (s_aloadn rfl rfl rfl) ?_
    refine XS.go (s_getr rfl xf12_157 (LY.lt L0 (by decide)) (LY.k1262 L0) (by decide) rfl (LY.r1262_74 L0)) ?_
    refine XS.go (s_iloadn rfl rfl rfl) ?_
    refine XS.go (s_iload rfl rfl) ?_
    refine XS.go (s_iadd rfl) ?_
    replace hf := xi_none hf
    obtain ⟨qk2, hf⟩ := hf
    refine XS.go (s_ialde rfl (LY.lt L0 (by decide)) (LY.k1310 L0) (inLit (LY.n1310 L0) qk2.1 qk2.2 (by decide)) rfl) ?_
    refine XS.go (s_i2l rfl) ?_
    refine XS.go (s_lor rfl) ?_
    refine XS.go (XS.lcl (L3 := [some (.ref 1262), some (.int x1), none, some (.long ((x3 <<< ((Int32.toInt64 8) &&& 63)) ||| (Int32.toInt64 (hi h 1310 (Int32.toNatClampNeg (x1 + x5)))))), none, some (.int x5)]) (s_lstoren rfl rfl (Nat.le_of_ble_eq_true rfl)) rfl) ?_
    refine XS.go (XS.lcl (L3 := [some (.ref 1262), some (.int x1), none, some (.long ((x3 <<< ((Int32.toInt64 8) &&& 63)) ||| (Int32.toInt64 (hi h 1310 (Int32.toNatClampNeg (x1 + x5)))))), none, some (.int (x5 + (-1)))]) (s_dec rfl rfl (Nat.le_of_ble_eq_true rfl)) rfl) ?_
    refine XS.go (s_goto (tgt := 7) rfl rfl) ?_
    exact XR.forget (L2 := [some (.ref 1262), some (.int x1), none, some (.long ((x3 <<< ((Int32.toInt64 8) &&& 63)) ||| (Int32.toInt64 (hi h 1310 (Int32.toNatClampNeg (x1 + x5)))))), none, some (.int (x5 + (-1)))]) ⟨rfl, ⟨rfl, ⟨rfl, ⟨rfl, trivial⟩⟩⟩⟩ (hK7 x1 ((x3 <<< ((Int32.toInt64 8) &&& 63)) ||| (Int32.toInt64 (hi h 1310 (Int32.toNatClampNeg (x1 + x5))))) (x5 + (-1)) _ L0 hf)
def b_m_number_7 : Nat → Int32 → Int64 → Int32 → XH → Option (Int64 × XH)
  | 0, _, _, _, _ => none
  | n + 1, x1, x3, x5, h => s_m_number_7 (b_m_number_7 n) x1 x3 x5 h
theorem kb_m_number_7 {l : Launch} {G : XG} {d : Nat} {n : Nat} {x1 : Int32} {x3 : Int64} {x5 : Int32} {h : XH} {r : Int64 × XH} (L0 : LY h) (hf : b_m_number_7 n x1 x3 x5 h = some r) : XR l G xEX12_number d (7, [some (.ref 1262), some (.int x1), none, some (.long x3), none, some (.int x5)], [], h) (fun C => ∃ v, xRet xEX12_number C v ∧ (C.2.2.2 = r.2 ∧ v = some (.long r.1)) ∧ LY r.2) := by
  induction n generalizing x1 x3 x5 h with
  | zero => cases hf
  | succ n ih => exact ks_m_number_7 (fun x1 x3 x5 h L0 hf => ih (h := h) (x1 := x1) (x3 := x3) (x5 := x5) L0 hf) L0 hf
def f_m_number (a0 : Int32) (a1 : Int32) (h : XH) : Option (Int64 × XH) := (b_m_number_7 100000 a0 (0 : Int64) (a1 - 1) h)
set_option maxRecDepth 20000 in
theorem kf_m_number {l : Launch} {G : XG} {d : Nat} {a0 : Int32} {a1 : Int32} {h : XH} {r : Int64 × XH} (L0 : LY h) (hf : f_m_number a0 a1 h = some r) : XC l G xEX12_number d [.ref 1262, .int a0, .int a1] h (fun v h2 => (h2 = r.2 ∧ v = some (.long r.1)) ∧ LY r.2) := by
  refine XC.virt xvX12_number (Nat.le_of_ble_eq_true rfl) ?_
  unfold f_m_number at hf
  refine XR.norm (L3 := [some (.ref 1262), some (.int a0), some (.int a1), none, none, none]) rfl ?_
  refine XS.go (s_lconst (v := 0) rfl rfl) ?_
  refine XS.go (XS.lcl (L3 := [some (.ref 1262), some (.int a0), some (.int a1), some (.long (0 : Int64)), none, none]) (s_lstoren rfl rfl (Nat.le_of_ble_eq_true rfl)) rfl) ?_
  refine XS.go (s_iloadn rfl rfl rfl) ?_
  refine XS.go (s_iconst (v := 1) rfl rfl) ?_
  refine XS.go (s_isub rfl) ?_
  refine XS.go (XS.lcl (L3 := [some (.ref 1262), some (.int a0), some (.int a1), some (.long (0 : Int64)), none, some (.int (a1 - 1))]) (s_istore rfl (Nat.le_of_ble_eq_true rfl)) rfl) ?_
  exact XR.forget (L2 := [some (.ref 1262), some (.int a0), none, some (.long (0 : Int64)), none, some (.int (a1 - 1))]) ⟨rfl, ⟨rfl, ⟨rfl, ⟨rfl, trivial⟩⟩⟩⟩ (kb_m_number_7 L0 hf)
def f_m_far (a0 : Int32) (a1 : Int32) (h : XH) : Option (Int32 × XH) := (Option.bind (f_m_number a0 2 h) fun r1 => (if (6 + (2 * a1)) ≤ (Int64.toInt32 r1.1) then (Option.bind (f_m_number ((a0 + 4) + (2 * a1)) 2 r1.2) fun r5 => (some ((Int64.toInt32 r5.1), r5.2))) else (some (0, r1.2))))
set_option maxRecDepth 20000 in
theorem kf_m_far {l : Launch} {G : XG} {d : Nat} {a0 : Int32} {a1 : Int32} {h : XH} {r : Int32 × XH} (L0 : LY h) (hf : f_m_far a0 a1 h = some r) : XC l G xEX12_far (d + 1) [.ref 1262, .int a0, .int a1] h (fun v h2 => (h2 = r.2 ∧ v = some (.int r.1)) ∧ LY r.2) := by
  refine XC.virt xvX12_far (Nat.le_of_ble_eq_true rfl) ?_
  unfold f_m_far at hf
  refine XR.norm (L3 := [some (.ref 1262), some (.int a0), some (.int a1)]) rfl ?_
  refine XS.go (s_bipush (v := 6) rfl rfl) ?_
  refine XS.go (s_iconst (v := 2) rfl rfl) ?_
  refine XS.go (s_iloadn rfl rfl rfl) ?_
  refine XS.go (s_imul rfl) ?_
  refine XS.go (s_iadd rfl) ?_
  refine XS.go (s_aloadn rfl rfl rfl) ?_
  refine XS.go (s_iloadn rfl rfl rfl) ?_
  refine XS.go (s_iconst (v := 2) rfl rfl) ?_
  replace hf := xb_some hf
  obtain ⟨r1, e2, hf⟩ := hf
  refine r_callv rfl xvX12_number xm12_467 (kf_m_number (d := d) L0 e2) (LY.lt L0 (by decide)) (LY.k1262 L0) (by decide) rfl rfl (dl0 (by decide)) (by decide) (Nat.le_of_ble_eq_true rfl) ?_
  rintro _ _ ⟨⟨rfl, rfl⟩, L3⟩
  refine XS.go (s_l2i rfl) ?_
  refine r_icmp_le (tgt := 20) rfl rfl (fun qc4 => ?_) (fun qc4 => ?_)
  · replace hf := xi_pos hf qc4
    refine XS.go (s_aloadn rfl rfl rfl) ?_
    refine XS.go (s_iloadn rfl rfl rfl) ?_
    refine XS.go (s_iconst (v := 4) rfl rfl) ?_
    refine XS.go (s_iadd rfl) ?_
    refine XS.go (s_iconst (v := 2) rfl rfl) ?_
    refine XS.go (s_iloadn rfl rfl rfl) ?_
    refine XS.go (s_imul rfl) ?_
    refine XS.go (s_iadd rfl) ?_
    refine XS.go (s_iconst (v := 2) rfl rfl) ?_
    replace hf := xb_some hf
    obtain ⟨r5, e6, hf⟩ := hf
    refine r_callv rfl xvX12_number xm12_467 (kf_m_number (d := d) L3 e6) (LY.lt L3 (by decide)) (LY.k1262 L3) (by decide) rfl rfl (dl0 (by decide)) (by decide) (Nat.le_of_ble_eq_true rfl) ?_
    rintro _ _ ⟨⟨rfl, rfl⟩, L7⟩
    refine XS.go (s_l2i rfl) ?_
    cases hf
    exact XR.reti rfl rfl (fun hret => ⟨_, hret, ⟨rfl, rfl⟩, L7⟩)
  · replace hf := xi_neg hf qc4
    refine XS.go (s_iconst (v := 0) rfl rfl) ?_
    refine XS.go (s_goto (tgt := 33) rfl rfl) ?_
    cases hf
    exact XR.reti rfl rfl (fun hret => ⟨_, hret, ⟨rfl, rfl⟩, L3⟩)
def b_m_judgeValue_98 (K19 : Int32 → Int32 → Int32 → Int32 → Int32 → XH → Option (Unit × XH)) (x1 : Int32) (x2 : Int32) (x3 : Int32) (x4 : Int32) (x5 : Int32) (h : XH) : Option (Unit × XH) := (K19 x1 x2 x3 x4 (x5 + 1) h)
set_option maxRecDepth 20000 in
theorem kb_m_judgeValue_98 {l : Launch} {G : XG} {d : Nat} {K19 : Int32 → Int32 → Int32 → Int32 → Int32 → XH → Option (Unit × XH)} {x1 : Int32} {x2 : Int32} {x3 : Int32} {x4 : Int32} {x5 : Int32} {h : XH} {r : Unit × XH} (hK19 : ∀ (x1 : Int32) (x2 : Int32) (x3 : Int32) (x4 : Int32) (x5 : Int32) (h : XH), LY h → K19 x1 x2 x3 x4 x5 h = some r → XR l G xEX12_judgeValue (d + 1) (19, [some (.ref 1262), some (.int x1), some (.int x2), some (.int x3), some (.int x4), some (.int x5), none, none], [], h) (fun C => ∃ v, xRet xEX12_judgeValue C v ∧ (C.2.2.2 = r.2 ∧ v = none) ∧ LY r.2)) (L0 : LY h) (hf : b_m_judgeValue_98 K19 x1 x2 x3 x4 x5 h = some r) : XR l G xEX12_judgeValue (d + 1) (98, [some (.ref 1262), some (.int x1), some (.int x2), some (.int x3), some (.int x4), some (.int x5), none, none], [], h) (fun C => ∃ v, xRet xEX12_judgeValue C v ∧ (C.2.2.2 = r.2 ∧ v = none) ∧ LY r.2) := by
  unfold b_m_judgeValue_98 at hf
  refine XS.go (XS.lcl (L3 := [some (.ref 1262), some (.int x1), some (.int x2), some (.int x3), some (.int x4), some (.int (x5 + 1)), none, none]) (s_inc rfl rfl (Nat.le_of_ble_eq_true rfl)) rfl) ?_
  refine XS.go (s_goto (tgt := 19) rfl rfl) ?_
  exact XR.forget (L2 := [some (.ref 1262), some (.int x1), some (.int x2), some (.int x3), some (.int x4), some (.int (x5 + 1)), none, none]) ⟨rfl, ⟨rfl, ⟨rfl, ⟨rfl, ⟨rfl, ⟨rfl, trivial⟩⟩⟩⟩⟩⟩ (hK19 x1 x2 x3 x4 (x5 + 1) _ L0 hf)
def b_m_judgeValue_71 (K19 : Int32 → Int32 → Int32 → Int32 → Int32 → XH → Option (Unit × XH)) (x1 : Int32) (x2 : Int32) (x3 : Int32) (x4 : Int32) (x5 : Int32) (x6 : Int32) (y0 : Int32) (y1 : Int32) (h : XH) : Option (Unit × XH) := (if ¬ x6 = 0 then (b_m_judgeValue_98 K19 x1 x2 x3 x4 x5 h) else (if 0 ≤ (y0 + y1) ∧ (y0 + y1) < nI 4000 then (if (hi h 1310 (Int32.toNatClampNeg (y0 + y1))) ≤ 1 then (b_m_judgeValue_98 K19 x1 x2 x3 x4 x5 h) else (Option.bind (f_m_wrong 11 (y0 + y1) h) fun r4 => (b_m_judgeValue_98 K19 x1 x2 x3 x4 x5 r4.2))) else none))
set_option maxRecDepth 20000 in
theorem kb_m_judgeValue_71 {l : Launch} {G : XG} {d : Nat} {K19 : Int32 → Int32 → Int32 → Int32 → Int32 → XH → Option (Unit × XH)} {x1 : Int32} {x2 : Int32} {x3 : Int32} {x4 : Int32} {x5 : Int32} {x6 : Int32} {y0 : Int32} {y1 : Int32} {h : XH} {r : Unit × XH} (hK19 : ∀ (x1 : Int32) (x2 : Int32) (x3 : Int32) (x4 : Int32) (x5 : Int32) (h : XH), LY h → K19 x1 x2 x3 x4 x5 h = some r → XR l G xEX12_judgeValue (d + 1) (19, [some (.ref 1262), some (.int x1), some (.int x2), some (.int x3), some (.int x4), some (.int x5), none, none], [], h) (fun C => ∃ v, xRet xEX12_judgeValue C v ∧ (C.2.2.2 = r.2 ∧ v = none) ∧ LY r.2)) (L0 : LY h) (hf : b_m_judgeValue_71 K19 x1 x2 x3 x4 x5 x6 y0 y1 h = some r) : XR l G xEX12_judgeValue (d + 1) (71, [some (.ref 1262), some (.int x1), some (.int x2), some (.int x3), some (.int x4), some (.int x5), some (.int x6), none], [(.int y1), (.int y0)], h) (fun C => ∃ v, xRet xEX12_judgeValue C v ∧ (C.2.2.2 = r.2 ∧ v = none) ∧ LY r.2) := by
  unfold b_m_judgeValue_71 at hf
  refine XS.go (s_iadd rfl) ?_
  refine XS.go (XS.lcl (L3 := [some (.ref 1262), some (.int x1), some (.int x2), some (.int x3), some (.int x4), some (.int x5), some (.int x6), some (.int (y0 + y1))]) (s_istore rfl (Nat.le_of_ble_eq_true rfl)) rfl) ?_
  refine XS.go (s_iload rfl rfl) ?_
  refine r_if_ne (tgt := 98) rfl rfl (fun qc1 => ?_) (fun qc1 => ?_)
  · replace hf := xi_pos hf qc1
    exact XR.forget (L2 := [some (.ref 1262), some (.int x1), some (.int x2), some (.int x3), some (.int x4), some (.int x5), none, none]) ⟨rfl, ⟨rfl, ⟨rfl, ⟨rfl, ⟨rfl, ⟨rfl, trivial⟩⟩⟩⟩⟩⟩ (kb_m_judgeValue_98 hK19 L0 hf)
  · replace hf := xi_neg hf qc1
    refine XS.go (s_aloadn rfl rfl rfl) ?_
    refine XS.go (s_getr rfl xf12_157 (LY.lt L0 (by decide)) (LY.k1262 L0) (by decide) rfl (LY.r1262_74 L0)) ?_
    refine XS.go (s_iload rfl rfl) ?_
    replace hf := xi_none hf
    obtain ⟨qk2, hf⟩ := hf
    refine XS.go (s_ialde rfl (LY.lt L0 (by decide)) (LY.k1310 L0) (inLit (LY.n1310 L0) qk2.1 qk2.2 (by decide)) rfl) ?_
    refine XS.go (s_iconst (v := 1) rfl rfl) ?_
    refine r_icmp_le (tgt := 98) rfl rfl (fun qc3 => ?_) (fun qc3 => ?_)
    · replace hf := xi_pos hf qc3
      exact XR.forget (L2 := [some (.ref 1262), some (.int x1), some (.int x2), some (.int x3), some (.int x4), some (.int x5), none, none]) ⟨rfl, ⟨rfl, ⟨rfl, ⟨rfl, ⟨rfl, ⟨rfl, trivial⟩⟩⟩⟩⟩⟩ (kb_m_judgeValue_98 hK19 L0 hf)
    · replace hf := xi_neg hf qc3
      refine XS.go (s_aloadn rfl rfl rfl) ?_
      refine XS.go (s_bipush (v := 11) rfl rfl) ?_
      refine XS.go (s_iload rfl rfl) ?_
      replace hf := xb_some hf
      obtain ⟨r4, e5, hf⟩ := hf
      refine r_callv rfl xvX12_wrong xm12_462 (kf_m_wrong (d := d) L0 e5) (LY.lt L0 (by decide)) (LY.k1262 L0) (by decide) rfl rfl (dl0 (by decide)) (by decide) (Nat.le_of_ble_eq_true rfl) ?_
      rintro _ _ ⟨⟨rfl, rfl⟩, L6⟩
      exact XR.forget (L2 := [some (.ref 1262), some (.int x1), some (.int x2), some (.int x3), some (.int x4), some (.int x5), none, none]) ⟨rfl, ⟨rfl, ⟨rfl, ⟨rfl, ⟨rfl, ⟨rfl, trivial⟩⟩⟩⟩⟩⟩ (kb_m_judgeValue_98 hK19 L6 hf)
def b_m_judgeValue_47 (K19 : Int32 → Int32 → Int32 → Int32 → Int32 → XH → Option (Unit × XH)) (x1 : Int32) (x2 : Int32) (x3 : Int32) (x4 : Int32) (x5 : Int32) (y0 : Int32) (h : XH) : Option (Unit × XH) := (if ¬ x2 = 0 then (if 0 ≤ ((128 * x3) + x5) ∧ ((128 * x3) + x5) < nI 1536 then (b_m_judgeValue_71 K19 x1 x2 x3 x4 x5 y0 x1 (hi h 1282 (Int32.toNatClampNeg ((128 * x3) + x5))) h) else none) else (b_m_judgeValue_71 K19 x1 x2 x3 x4 x5 y0 x1 0 h))
set_option maxRecDepth 20000 in
theorem kb_m_judgeValue_47 {l : Launch} {G : XG} {d : Nat} {K19 : Int32 → Int32 → Int32 → Int32 → Int32 → XH → Option (Unit × XH)} {x1 : Int32} {x2 : Int32} {x3 : Int32} {x4 : Int32} {x5 : Int32} {y0 : Int32} {h : XH} {r : Unit × XH} (hK19 : ∀ (x1 : Int32) (x2 : Int32) (x3 : Int32) (x4 : Int32) (x5 : Int32) (h : XH), LY h → K19 x1 x2 x3 x4 x5 h = some r → XR l G xEX12_judgeValue (d + 1) (19, [some (.ref 1262), some (.int x1), some (.int x2), some (.int x3), some (.int x4), some (.int x5), none, none], [], h) (fun C => ∃ v, xRet xEX12_judgeValue C v ∧ (C.2.2.2 = r.2 ∧ v = none) ∧ LY r.2)) (L0 : LY h) (hf : b_m_judgeValue_47 K19 x1 x2 x3 x4 x5 y0 h = some r) : XR l G xEX12_judgeValue (d + 1) (47, [some (.ref 1262), some (.int x1), some (.int x2), some (.int x3), some (.int x4), some (.int x5), none, none], [(.int y0)], h) (fun C => ∃ v, xRet xEX12_judgeValue C v ∧ (C.2.2.2 = r.2 ∧ v = none) ∧ LY r.2) := by
  unfold b_m_judgeValue_47 at hf
  refine XS.go (XS.lcl (L3 := [some (.ref 1262), some (.int x1), some (.int x2), some (.int x3), some (.int x4), some (.int x5), some (.int y0), none]) (s_istore rfl (Nat.le_of_ble_eq_true rfl)) rfl) ?_
  refine XS.go (s_iloadn rfl rfl rfl) ?_
  refine XS.go (s_iloadn rfl rfl rfl) ?_
  refine r_if_ne (tgt := 58) rfl rfl (fun qc7 => ?_) (fun qc7 => ?_)
  · replace hf := xi_pos hf qc7
    refine XS.go (s_aloadn rfl rfl rfl) ?_
    refine XS.go (s_getr rfl xf12_67 (LY.lt L0 (by decide)) (LY.k1262 L0) (by decide) rfl (LY.r1262_30 L0)) ?_
    refine XS.go (s_sipush (v := 128) rfl rfl) ?_
    refine XS.go (s_iloadn rfl rfl rfl) ?_
    refine XS.go (s_imul rfl) ?_
    refine XS.go (s_iload rfl rfl) ?_
    refine XS.go (s_iadd rfl) ?_
    replace hf := xi_none hf
    obtain ⟨qk8, hf⟩ := hf
    refine XS.go (s_ialde rfl (LY.lt L0 (by decide)) (LY.k1282 L0) (inLit (LY.n1282 L0) qk8.1 qk8.2 (by decide)) rfl) ?_
    exact XR.forget (L2 := [some (.ref 1262), some (.int x1), some (.int x2), some (.int x3), some (.int x4), some (.int x5), some (.int y0), none]) ⟨rfl, ⟨rfl, ⟨rfl, ⟨rfl, ⟨rfl, ⟨rfl, ⟨rfl, trivial⟩⟩⟩⟩⟩⟩⟩ (kb_m_judgeValue_71 hK19 L0 hf)
  · replace hf := xi_neg hf qc7
    refine XS.go (s_iconst (v := 0) rfl rfl) ?_
    refine XS.go (s_goto (tgt := 71) rfl rfl) ?_
    exact XR.forget (L2 := [some (.ref 1262), some (.int x1), some (.int x2), some (.int x3), some (.int x4), some (.int x5), some (.int y0), none]) ⟨rfl, ⟨rfl, ⟨rfl, ⟨rfl, ⟨rfl, ⟨rfl, ⟨rfl, trivial⟩⟩⟩⟩⟩⟩⟩ (kb_m_judgeValue_71 hK19 L0 hf)
def s_m_judgeValue_19 (K19 : Int32 → Int32 → Int32 → Int32 → Int32 → XH → Option (Unit × XH)) (x1 : Int32) (x2 : Int32) (x3 : Int32) (x4 : Int32) (x5 : Int32) (h : XH) : Option (Unit × XH) := (if x4 ≤ x5 then (some ((), h)) else (if ¬ x2 = 0 then (if 0 ≤ ((128 * x3) + x5) ∧ ((128 * x3) + x5) < nI 1536 then (b_m_judgeValue_47 K19 x1 x2 x3 x4 x5 (hi h 1281 (Int32.toNatClampNeg ((128 * x3) + x5))) h) else none) else (b_m_judgeValue_47 K19 x1 x2 x3 x4 x5 x3 h)))
set_option maxRecDepth 20000 in
theorem ks_m_judgeValue_19 {l : Launch} {G : XG} {d : Nat} {K19 : Int32 → Int32 → Int32 → Int32 → Int32 → XH → Option (Unit × XH)} {x1 : Int32} {x2 : Int32} {x3 : Int32} {x4 : Int32} {x5 : Int32} {h : XH} {r : Unit × XH} (hK19 : ∀ (x1 : Int32) (x2 : Int32) (x3 : Int32) (x4 : Int32) (x5 : Int32) (h : XH), LY h → K19 x1 x2 x3 x4 x5 h = some r → XR l G xEX12_judgeValue (d + 1) (19, [some (.ref 1262), some (.int x1), some (.int x2), some (.int x3), some (.int x4), some (.int x5), none, none], [], h) (fun C => ∃ v, xRet xEX12_judgeValue C v ∧ (C.2.2.2 = r.2 ∧ v = none) ∧ LY r.2)) (L0 : LY h) (hf : s_m_judgeValue_19 K19 x1 x2 x3 x4 x5 h = some r) : XR l G xEX12_judgeValue (d + 1) (19, [some (.ref 1262), some (.int x1), some (.int x2), some (.int x3), some (.int x4), some (.int x5), none, none], [], h) (fun C => ∃ v, xRet xEX12_judgeValue C v ∧ (C.2.2.2 = r.2 ∧ v = none) ∧ LY r.2) := by
  unfold s_m_judgeValue_19 at hf
  refine XS.go (s_iload rfl rfl) ?_
  refine XS.go (s_iload rfl rfl) ?_
  refine r_icmp_ge (tgt := 104) rfl rfl (fun qc9 => ?_) (fun qc9 => ?_)
  · replace hf := xi_pos hf qc9
    cases hf
    exact XR.retv rfl rfl (fun hret => ⟨_, hret, ⟨rfl, rfl⟩, L0⟩)
  · replace hf := xi_neg hf qc9
    refine XS.go (s_iloadn rfl rfl rfl) ?_
    refine r_if_ne (tgt := 34) rfl rfl (fun qc10 => ?_) (fun qc10 => ?_)
    · replace hf := xi_pos hf qc10
      refine XS.go (s_aloadn rfl rfl rfl) ?_
      refine XS.go (s_getr rfl xf12_64 (LY.lt L0 (by decide)) (LY.k1262 L0) (by decide) rfl (LY.r1262_29 L0)) ?_
      refine XS.go (s_sipush (v := 128) rfl rfl) ?_
      refine XS.go (s_iloadn rfl rfl rfl) ?_
      refine XS.go (s_imul rfl) ?_
      refine XS.go (s_iload rfl rfl) ?_
      refine XS.go (s_iadd rfl) ?_
      replace hf := xi_none hf
      obtain ⟨qk11, hf⟩ := hf
      refine XS.go (s_ialde rfl (LY.lt L0 (by decide)) (LY.k1281 L0) (inLit (LY.n1281 L0) qk11.1 qk11.2 (by decide)) rfl) ?_
      exact XR.forget (L2 := [some (.ref 1262), some (.int x1), some (.int x2), some (.int x3), some (.int x4), some (.int x5), none, none]) ⟨rfl, ⟨rfl, ⟨rfl, ⟨rfl, ⟨rfl, ⟨rfl, trivial⟩⟩⟩⟩⟩⟩ (kb_m_judgeValue_47 hK19 L0 hf)
    · replace hf := xi_neg hf qc10
      refine XS.go (s_iloadn rfl rfl rfl) ?_
      refine XS.go (s_goto (tgt := 47) rfl rfl) ?_
      exact XR.forget (L2 := [some (.ref 1262), some (.int x1), some (.int x2), some (.int x3), some (.int x4), some (.int x5), none, none]) ⟨rfl, ⟨rfl, ⟨rfl, ⟨rfl, ⟨rfl, ⟨rfl, trivial⟩⟩⟩⟩⟩⟩ (kb_m_judgeValue_47 hK19 L0 hf)
def b_m_judgeValue_19 : Nat → Int32 → Int32 → Int32 → Int32 → Int32 → XH → Option (Unit × XH)
  | 0, _, _, _, _, _, _ => none
  | n + 1, x1, x2, x3, x4, x5, h => s_m_judgeValue_19 (b_m_judgeValue_19 n) x1 x2 x3 x4 x5 h
theorem kb_m_judgeValue_19 {l : Launch} {G : XG} {d : Nat} {n : Nat} {x1 : Int32} {x2 : Int32} {x3 : Int32} {x4 : Int32} {x5 : Int32} {h : XH} {r : Unit × XH} (L0 : LY h) (hf : b_m_judgeValue_19 n x1 x2 x3 x4 x5 h = some r) : XR l G xEX12_judgeValue (d + 1) (19, [some (.ref 1262), some (.int x1), some (.int x2), some (.int x3), some (.int x4), some (.int x5), none, none], [], h) (fun C => ∃ v, xRet xEX12_judgeValue C v ∧ (C.2.2.2 = r.2 ∧ v = none) ∧ LY r.2) := by
  induction n generalizing x1 x2 x3 x4 x5 h with
  | zero => cases hf
  | succ n ih => exact ks_m_judgeValue_19 (fun x1 x2 x3 x4 x5 h L0 hf => ih (h := h) (x1 := x1) (x2 := x2) (x3 := x3) (x4 := x4) (x5 := x5) L0 hf) L0 hf
def b_m_judgeValue_14 (x1 : Int32) (x2 : Int32) (x3 : Int32) (y0 : Int32) (h : XH) : Option (Unit × XH) := (b_m_judgeValue_19 100000 x1 x2 x3 y0 0 h)
set_option maxRecDepth 20000 in
theorem kb_m_judgeValue_14 {l : Launch} {G : XG} {d : Nat} {x1 : Int32} {x2 : Int32} {x3 : Int32} {y0 : Int32} {h : XH} {r : Unit × XH} (L0 : LY h) (hf : b_m_judgeValue_14 x1 x2 x3 y0 h = some r) : XR l G xEX12_judgeValue (d + 1) (14, [some (.ref 1262), some (.int x1), some (.int x2), some (.int x3), none, none, none, none], [(.int y0)], h) (fun C => ∃ v, xRet xEX12_judgeValue C v ∧ (C.2.2.2 = r.2 ∧ v = none) ∧ LY r.2) := by
  unfold b_m_judgeValue_14 at hf
  refine XS.go (XS.lcl (L3 := [some (.ref 1262), some (.int x1), some (.int x2), some (.int x3), some (.int y0), none, none, none]) (s_istore rfl (Nat.le_of_ble_eq_true rfl)) rfl) ?_
  refine XS.go (s_iconst (v := 0) rfl rfl) ?_
  refine XS.go (XS.lcl (L3 := [some (.ref 1262), some (.int x1), some (.int x2), some (.int x3), some (.int y0), some (.int 0), none, none]) (s_istore rfl (Nat.le_of_ble_eq_true rfl)) rfl) ?_
  exact XR.forget (L2 := [some (.ref 1262), some (.int x1), some (.int x2), some (.int x3), some (.int y0), some (.int 0), none, none]) ⟨rfl, ⟨rfl, ⟨rfl, ⟨rfl, ⟨rfl, ⟨rfl, trivial⟩⟩⟩⟩⟩⟩ (kb_m_judgeValue_19 L0 hf)
def f_m_judgeValue (a0 : Int32) (a1 : Int32) (a2 : Int32) (h : XH) : Option (Unit × XH) := (if ¬ a1 = 0 then (if 0 ≤ a2 ∧ a2 < nI 12 then (b_m_judgeValue_14 a0 a1 a2 (hi h 1280 (Int32.toNatClampNeg a2)) h) else none) else (b_m_judgeValue_14 a0 a1 a2 1 h))
set_option maxRecDepth 20000 in
theorem kf_m_judgeValue {l : Launch} {G : XG} {d : Nat} {a0 : Int32} {a1 : Int32} {a2 : Int32} {h : XH} {r : Unit × XH} (L0 : LY h) (hf : f_m_judgeValue a0 a1 a2 h = some r) : XC l G xEX12_judgeValue (d + 1) [.ref 1262, .int a0, .int a1, .int a2] h (fun v h2 => (h2 = r.2 ∧ v = none) ∧ LY r.2) := by
  refine XC.virt xvX12_judgeValue (Nat.le_of_ble_eq_true rfl) ?_
  unfold f_m_judgeValue at hf
  refine XR.norm (L3 := [some (.ref 1262), some (.int a0), some (.int a1), some (.int a2), none, none, none, none]) rfl ?_
  refine XS.go (s_iloadn rfl rfl rfl) ?_
  refine r_if_ne (tgt := 8) rfl rfl (fun qc12 => ?_) (fun qc12 => ?_)
  · replace hf := xi_pos hf qc12
    refine XS.go (s_aloadn rfl rfl rfl) ?_
    refine XS.go (s_getr rfl xf12_61 (LY.lt L0 (by decide)) (LY.k1262 L0) (by decide) rfl (LY.r1262_28 L0)) ?_
    refine XS.go (s_iloadn rfl rfl rfl) ?_
    replace hf := xi_none hf
    obtain ⟨qk13, hf⟩ := hf
    refine XS.go (s_ialde rfl (LY.lt L0 (by decide)) (LY.k1280 L0) (inLit (LY.n1280 L0) qk13.1 qk13.2 (by decide)) rfl) ?_
    exact XR.forget (L2 := [some (.ref 1262), some (.int a0), some (.int a1), some (.int a2), none, none, none, none]) ⟨rfl, ⟨rfl, ⟨rfl, ⟨rfl, trivial⟩⟩⟩⟩ (kb_m_judgeValue_14 L0 hf)
  · replace hf := xi_neg hf qc12
    refine XS.go (s_iconst (v := 1) rfl rfl) ?_
    refine XS.go (s_goto (tgt := 14) rfl rfl) ?_
    exact XR.forget (L2 := [some (.ref 1262), some (.int a0), some (.int a1), some (.int a2), none, none, none, none]) ⟨rfl, ⟨rfl, ⟨rfl, ⟨rfl, trivial⟩⟩⟩⟩ (kb_m_judgeValue_14 L0 hf)
def b_m_stood_68 (x1 : Int32) (x7 : Int32) (h : XH) : Option (Int32 × XH) := (some ((x1 + x7), h))
set_option maxRecDepth 20000 in
theorem kb_m_stood_68 {l : Launch} {G : XG} {d : Nat} {x1 : Int32} {x7 : Int32} {h : XH} {r : Int32 × XH} (L0 : LY h) (hf : b_m_stood_68 x1 x7 h = some r) : XR l G xEX12_stood (d + 2) (68, [none, some (.int x1), none, none, none, none, none, some (.int x7)], [], h) (fun C => ∃ v, xRet xEX12_stood C v ∧ (C.2.2.2 = r.2 ∧ v = some (.int r.1)) ∧ LY r.2) := by
  unfold b_m_stood_68 at hf
  refine XS.go (s_iloadn rfl rfl rfl) ?_
  refine XS.go (s_iload rfl rfl) ?_
  refine XS.go (s_iadd rfl) ?_
  cases hf
  exact XR.reti rfl rfl (fun hret => ⟨_, hret, ⟨rfl, rfl⟩, L0⟩)
def b_m_stood_40 (x1 : Int32) (x6 : Int32) (x7 : Int32) (h : XH) : Option (Int32 × XH) := (Option.bind (f_m_wrong 10 x6 h) fun r1 => (b_m_stood_68 x1 x7 r1.2))
set_option maxRecDepth 20000 in
theorem kb_m_stood_40 {l : Launch} {G : XG} {d : Nat} {x1 : Int32} {x6 : Int32} {x7 : Int32} {h : XH} {r : Int32 × XH} (L0 : LY h) (hf : b_m_stood_40 x1 x6 x7 h = some r) : XR l G xEX12_stood (d + 2) (40, [some (.ref 1262), some (.int x1), none, none, none, none, some (.int x6), some (.int x7)], [], h) (fun C => ∃ v, xRet xEX12_stood C v ∧ (C.2.2.2 = r.2 ∧ v = some (.int r.1)) ∧ LY r.2) := by
  unfold b_m_stood_40 at hf
  refine XS.go (s_aloadn rfl rfl rfl) ?_
  refine XS.go (s_bipush (v := 10) rfl rfl) ?_
  refine XS.go (s_iload rfl rfl) ?_
  replace hf := xb_some hf
  obtain ⟨r1, e2, hf⟩ := hf
  refine r_callv rfl xvX12_wrong xm12_462 (kf_m_wrong (d := d) L0 e2) (LY.lt L0 (by decide)) (LY.k1262 L0) (by decide) rfl rfl (dl0 (by decide)) (by decide) (Nat.le_of_ble_eq_true rfl) ?_
  rintro _ _ ⟨⟨rfl, rfl⟩, L3⟩
  refine XS.go (s_goto (tgt := 68) rfl rfl) ?_
  exact XR.forget (L2 := [none, some (.int x1), none, none, none, none, none, some (.int x7)]) ⟨rfl, ⟨rfl, trivial⟩⟩ (kb_m_stood_68 L3 hf)
def f_m_stood (a0 : Int32) (a1 : Int32) (a2 : Int32) (a3 : Int32) (a4 : Int32) (h : XH) : Option (Int32 × XH) := (Option.bind (f_m_far a1 a2 h) fun r4 => (if r4.1 < 4 then (b_m_stood_40 a0 ((a1 + 4) + (2 * a2)) r4.1 r4.2) else (Option.bind (f_m_number (a1 + 2) 2 r4.2) fun r8 => (if (r4.1 + a3) ≤ (Int64.toInt32 r8.1) then (if ¬ a4 = 0 then (if ((a0 + r4.1) - (a0 + r4.1) / a4 * a4) = 0 then (b_m_stood_68 a0 r4.1 r8.2) else (Option.bind (f_m_wrong 3 ((a1 + 4) + (2 * a2)) r8.2) fun r14 => (b_m_stood_68 a0 r4.1 r14.2))) else none) else (b_m_stood_40 a0 ((a1 + 4) + (2 * a2)) r4.1 r8.2)))))
set_option maxRecDepth 20000 in
theorem kf_m_stood {l : Launch} {G : XG} {d : Nat} {a0 : Int32} {a1 : Int32} {a2 : Int32} {a3 : Int32} {a4 : Int32} {h : XH} {r : Int32 × XH} (L0 : LY h) (hf : f_m_stood a0 a1 a2 a3 a4 h = some r) : XC l G xEX12_stood (d + 2) [.ref 1262, .int a0, .int a1, .int a2, .int a3, .int a4] h (fun v h2 => (h2 = r.2 ∧ v = some (.int r.1)) ∧ LY r.2) := by
  refine XC.virt xvX12_stood (Nat.le_of_ble_eq_true rfl) ?_
  unfold f_m_stood at hf
  refine XR.norm (L3 := [some (.ref 1262), some (.int a0), some (.int a1), some (.int a2), some (.int a3), some (.int a4), none, none]) rfl ?_
  refine XS.go (s_iloadn rfl rfl rfl) ?_
  refine XS.go (s_iconst (v := 4) rfl rfl) ?_
  refine XS.go (s_iadd rfl) ?_
  refine XS.go (s_iconst (v := 2) rfl rfl) ?_
  refine XS.go (s_iloadn rfl rfl rfl) ?_
  refine XS.go (s_imul rfl) ?_
  refine XS.go (s_iadd rfl) ?_
  refine XS.go (XS.lcl (L3 := [some (.ref 1262), some (.int a0), some (.int a1), some (.int a2), some (.int a3), some (.int a4), some (.int ((a1 + 4) + (2 * a2))), none]) (s_istore rfl (Nat.le_of_ble_eq_true rfl)) rfl) ?_
  refine XS.go (s_aloadn rfl rfl rfl) ?_
  refine XS.go (s_iloadn rfl rfl rfl) ?_
  refine XS.go (s_iloadn rfl rfl rfl) ?_
  replace hf := xb_some hf
  obtain ⟨r4, e5, hf⟩ := hf
  refine r_callv rfl xvX12_far xm12_484 (kf_m_far (d := d) L0 e5) (LY.lt L0 (by decide)) (LY.k1262 L0) (by decide) rfl rfl (dl (by decide)) (by decide) (Nat.le_of_ble_eq_true rfl) ?_
  rintro _ _ ⟨⟨rfl, rfl⟩, L6⟩
  refine XS.go (XS.lcl (L3 := [some (.ref 1262), some (.int a0), some (.int a1), some (.int a2), some (.int a3), some (.int a4), some (.int ((a1 + 4) + (2 * a2))), some (.int r4.1)]) (s_istore rfl (Nat.le_of_ble_eq_true rfl)) rfl) ?_
  refine XS.go (s_iload rfl rfl) ?_
  refine XS.go (s_iconst (v := 4) rfl rfl) ?_
  refine r_icmp_lt (tgt := 40) rfl rfl (fun qc7 => ?_) (fun qc7 => ?_)
  · replace hf := xi_pos hf qc7
    exact XR.forget (L2 := [some (.ref 1262), some (.int a0), none, none, none, none, some (.int ((a1 + 4) + (2 * a2))), some (.int r4.1)]) ⟨rfl, ⟨rfl, ⟨rfl, ⟨rfl, trivial⟩⟩⟩⟩ (kb_m_stood_40 L6 hf)
  · replace hf := xi_neg hf qc7
    refine XS.go (s_iload rfl rfl) ?_
    refine XS.go (s_iload rfl rfl) ?_
    refine XS.go (s_iadd rfl) ?_
    refine XS.go (s_aloadn rfl rfl rfl) ?_
    refine XS.go (s_iloadn rfl rfl rfl) ?_
    refine XS.go (s_iconst (v := 2) rfl rfl) ?_
    refine XS.go (s_iadd rfl) ?_
    refine XS.go (s_iconst (v := 2) rfl rfl) ?_
    replace hf := xb_some hf
    obtain ⟨r8, e9, hf⟩ := hf
    refine r_callv rfl xvX12_number xm12_467 (kf_m_number (d := d) L6 e9) (LY.lt L6 (by decide)) (LY.k1262 L6) (by decide) rfl rfl (dl0 (by decide)) (by decide) (Nat.le_of_ble_eq_true rfl) ?_
    rintro _ _ ⟨⟨rfl, rfl⟩, L10⟩
    refine XS.go (s_l2i rfl) ?_
    refine r_icmp_le (tgt := 51) rfl rfl (fun qc11 => ?_) (fun qc11 => ?_)
    · replace hf := xi_pos hf qc11
      refine XS.go (s_iloadn rfl rfl rfl) ?_
      refine XS.go (s_iload rfl rfl) ?_
      refine XS.go (s_iadd rfl) ?_
      refine XS.go (s_iload rfl rfl) ?_
      replace hf := xi_none hf
      obtain ⟨qk12, hf⟩ := hf
      refine XS.go (s_irem qk12 rfl) ?_
      refine r_if_eq (tgt := 68) rfl rfl (fun qc13 => ?_) (fun qc13 => ?_)
      · replace hf := xi_pos hf qc13
        exact XR.forget (L2 := [none, some (.int a0), none, none, none, none, none, some (.int r4.1)]) ⟨rfl, ⟨rfl, trivial⟩⟩ (kb_m_stood_68 L10 hf)
      · replace hf := xi_neg hf qc13
        refine XS.go (s_aloadn rfl rfl rfl) ?_
        refine XS.go (s_iconst (v := 3) rfl rfl) ?_
        refine XS.go (s_iload rfl rfl) ?_
        replace hf := xb_some hf
        obtain ⟨r14, e15, hf⟩ := hf
        refine r_callv rfl xvX12_wrong xm12_462 (kf_m_wrong (d := d) L10 e15) (LY.lt L10 (by decide)) (LY.k1262 L10) (by decide) rfl rfl (dl0 (by decide)) (by decide) (Nat.le_of_ble_eq_true rfl) ?_
        rintro _ _ ⟨⟨rfl, rfl⟩, L16⟩
        exact XR.forget (L2 := [none, some (.int a0), none, none, none, none, none, some (.int r4.1)]) ⟨rfl, ⟨rfl, trivial⟩⟩ (kb_m_stood_68 L16 hf)
    · replace hf := xi_neg hf qc11
      exact XR.forget (L2 := [some (.ref 1262), some (.int a0), none, none, none, none, some (.int ((a1 + 4) + (2 * a2))), some (.int r4.1)]) ⟨rfl, ⟨rfl, ⟨rfl, ⟨rfl, trivial⟩⟩⟩⟩ (kb_m_stood_40 L10 hf)
def b_m_led_58 (x1 : Int32) (x2 : Int64) (h : XH) : Option (Int32 × XH) := (if ¬ (hi h 1262 76) = 0 then (some (0, h)) else (some ((Int64.toInt32 ((Int32.toInt64 x1) + x2)), h)))
set_option maxRecDepth 20000 in
theorem kb_m_led_58 {l : Launch} {G : XG} {d : Nat} {x1 : Int32} {x2 : Int64} {h : XH} {r : Int32 × XH} (L0 : LY h) (hf : b_m_led_58 x1 x2 h = some r) : XR l G xEX12_led (d + 1) (58, [some (.ref 1262), some (.int x1), some (.long x2), none], [], h) (fun C => ∃ v, xRet xEX12_led C v ∧ (C.2.2.2 = r.2 ∧ v = some (.int r.1)) ∧ LY r.2) := by
  unfold b_m_led_58 at hf
  refine XS.go (s_aloadn rfl rfl rfl) ?_
  refine XS.go (s_getie rfl xf12_450 (LY.lt L0 (by decide)) (LY.k1262 L0) (by decide) rfl rfl) ?_
  refine r_if_ne (tgt := 73) rfl rfl (fun qc1 => ?_) (fun qc1 => ?_)
  · replace hf := xi_pos hf qc1
    refine XS.go (s_iconst (v := 0) rfl rfl) ?_
    cases hf
    exact XR.reti rfl rfl (fun hret => ⟨_, hret, ⟨rfl, rfl⟩, L0⟩)
  · replace hf := xi_neg hf qc1
    refine XS.go (s_iloadn rfl rfl rfl) ?_
    refine XS.go (s_i2l rfl) ?_
    refine XS.go (s_lloadn rfl rfl rfl) ?_
    refine XS.go (s_ladd rfl) ?_
    refine XS.go (s_l2i rfl) ?_
    refine XS.go (s_goto (tgt := 74) rfl rfl) ?_
    cases hf
    exact XR.reti rfl rfl (fun hret => ⟨_, hret, ⟨rfl, rfl⟩, L0⟩)
def b_m_led_30 (x1 : Int32) (x2 : Int64) (h : XH) : Option (Int32 × XH) := (Option.bind (f_m_wrong 2 x1 h) fun r2 => (b_m_led_58 x1 x2 r2.2))
set_option maxRecDepth 20000 in
theorem kb_m_led_30 {l : Launch} {G : XG} {d : Nat} {x1 : Int32} {x2 : Int64} {h : XH} {r : Int32 × XH} (L0 : LY h) (hf : b_m_led_30 x1 x2 h = some r) : XR l G xEX12_led (d + 1) (30, [some (.ref 1262), some (.int x1), some (.long x2), none], [], h) (fun C => ∃ v, xRet xEX12_led C v ∧ (C.2.2.2 = r.2 ∧ v = some (.int r.1)) ∧ LY r.2) := by
  unfold b_m_led_30 at hf
  refine XS.go (s_aloadn rfl rfl rfl) ?_
  refine XS.go (s_iconst (v := 2) rfl rfl) ?_
  refine XS.go (s_iloadn rfl rfl rfl) ?_
  replace hf := xb_some hf
  obtain ⟨r2, e3, hf⟩ := hf
  refine r_callv rfl xvX12_wrong xm12_462 (kf_m_wrong (d := d) L0 e3) (LY.lt L0 (by decide)) (LY.k1262 L0) (by decide) rfl rfl (dl0 (by decide)) (by decide) (Nat.le_of_ble_eq_true rfl) ?_
  rintro _ _ ⟨⟨rfl, rfl⟩, L4⟩
  refine XS.go (s_goto (tgt := 58) rfl rfl) ?_
  exact XR.forget (L2 := [some (.ref 1262), some (.int x1), some (.long x2), none]) ⟨rfl, ⟨rfl, ⟨rfl, trivial⟩⟩⟩ (kb_m_led_58 L4 hf)
def f_m_led (a0 : Int32) (h : XH) : Option (Int32 × XH) := (Option.bind (f_m_number a0 4 h) fun r5 => (if (lg_cmp r5.1 (0 : Int64)) = 0 then (b_m_led_30 a0 r5.1 r5.2) else (if (lg_cmp (((Int32.toInt64 a0) + r5.1) + (4 : Int64)) (Int32.toInt64 (hi r5.2 1262 75))) ≤ 0 then (if (lg_cmp (((Int32.toInt64 a0) + r5.1) - ((Int32.toInt64 a0) + r5.1) / (4 : Int64) * (4 : Int64)) (0 : Int64)) = 0 then (b_m_led_58 a0 r5.1 r5.2) else (Option.bind (f_m_wrong 3 a0 r5.2) fun r11 => (b_m_led_58 a0 r5.1 r11.2))) else (b_m_led_30 a0 r5.1 r5.2))))
set_option maxRecDepth 20000 in
theorem kf_m_led {l : Launch} {G : XG} {d : Nat} {a0 : Int32} {h : XH} {r : Int32 × XH} (L0 : LY h) (hf : f_m_led a0 h = some r) : XC l G xEX12_led (d + 1) [.ref 1262, .int a0] h (fun v h2 => (h2 = r.2 ∧ v = some (.int r.1)) ∧ LY r.2) := by
  refine XC.virt xvX12_led (Nat.le_of_ble_eq_true rfl) ?_
  unfold f_m_led at hf
  refine XR.norm (L3 := [some (.ref 1262), some (.int a0), none, none]) rfl ?_
  refine XS.go (s_aloadn rfl rfl rfl) ?_
  refine XS.go (s_iloadn rfl rfl rfl) ?_
  refine XS.go (s_iconst (v := 4) rfl rfl) ?_
  replace hf := xb_some hf
  obtain ⟨r5, e6, hf⟩ := hf
  refine r_callv rfl xvX12_number xm12_467 (kf_m_number (d := d) L0 e6) (LY.lt L0 (by decide)) (LY.k1262 L0) (by decide) rfl rfl (dl0 (by decide)) (by decide) (Nat.le_of_ble_eq_true rfl) ?_
  rintro _ _ ⟨⟨rfl, rfl⟩, L7⟩
  refine XS.go (XS.lcl (L3 := [some (.ref 1262), some (.int a0), some (.long r5.1), none]) (s_lstoren rfl rfl (Nat.le_of_ble_eq_true rfl)) rfl) ?_
  refine XS.go (s_lloadn rfl rfl rfl) ?_
  refine XS.go (s_lconst (v := 0) rfl rfl) ?_
  refine XS.go (s_lcmp rfl) ?_
  refine r_if_eq (tgt := 30) rfl rfl (fun qc8 => ?_) (fun qc8 => ?_)
  · replace hf := xi_pos hf qc8
    exact XR.forget (L2 := [some (.ref 1262), some (.int a0), some (.long r5.1), none]) ⟨rfl, ⟨rfl, ⟨rfl, trivial⟩⟩⟩ (kb_m_led_30 L7 hf)
  · replace hf := xi_neg hf qc8
    refine XS.go (s_iloadn rfl rfl rfl) ?_
    refine XS.go (s_i2l rfl) ?_
    refine XS.go (s_lloadn rfl rfl rfl) ?_
    refine XS.go (s_ladd rfl) ?_
    refine XS.go (s_ldc2 rfl (lg_9 176 rfl rfl)) ?_
    refine XS.go (s_ladd rfl) ?_
    refine XS.go (s_aloadn rfl rfl rfl) ?_
    refine XS.go (s_getie rfl xf12_459 (LY.lt L7 (by decide)) (LY.k1262 L7) (by decide) rfl rfl) ?_
    refine XS.go (s_i2l rfl) ?_
    refine XS.go (s_lcmp rfl) ?_
    refine r_if_le (tgt := 39) rfl rfl (fun qc9 => ?_) (fun qc9 => ?_)
    · replace hf := xi_pos hf qc9
      refine XS.go (s_iloadn rfl rfl rfl) ?_
      refine XS.go (s_i2l rfl) ?_
      refine XS.go (s_lloadn rfl rfl rfl) ?_
      refine XS.go (s_ladd rfl) ?_
      refine XS.go (s_ldc2 rfl (lg_9 176 rfl rfl)) ?_
      refine XS.go (s_lrem (by decide) rfl) ?_
      refine XS.go (s_lconst (v := 0) rfl rfl) ?_
      refine XS.go (s_lcmp rfl) ?_
      refine r_if_eq (tgt := 58) rfl rfl (fun qc10 => ?_) (fun qc10 => ?_)
      · replace hf := xi_pos hf qc10
        exact XR.forget (L2 := [some (.ref 1262), some (.int a0), some (.long r5.1), none]) ⟨rfl, ⟨rfl, ⟨rfl, trivial⟩⟩⟩ (kb_m_led_58 L7 hf)
      · replace hf := xi_neg hf qc10
        refine XS.go (s_aloadn rfl rfl rfl) ?_
        refine XS.go (s_iconst (v := 3) rfl rfl) ?_
        refine XS.go (s_iloadn rfl rfl rfl) ?_
        replace hf := xb_some hf
        obtain ⟨r11, e12, hf⟩ := hf
        refine r_callv rfl xvX12_wrong xm12_462 (kf_m_wrong (d := d) L7 e12) (LY.lt L7 (by decide)) (LY.k1262 L7) (by decide) rfl rfl (dl0 (by decide)) (by decide) (Nat.le_of_ble_eq_true rfl) ?_
        rintro _ _ ⟨⟨rfl, rfl⟩, L13⟩
        exact XR.forget (L2 := [some (.ref 1262), some (.int a0), some (.long r5.1), none]) ⟨rfl, ⟨rfl, ⟨rfl, trivial⟩⟩⟩ (kb_m_led_58 L13 hf)
    · replace hf := xi_neg hf qc9
      exact XR.forget (L2 := [some (.ref 1262), some (.int a0), some (.long r5.1), none]) ⟨rfl, ⟨rfl, ⟨rfl, trivial⟩⟩⟩ (kb_m_led_30 L7 hf)
def f_m_toText (a0 : Int32) (h : XH) : Option (Unit × XH) := (Option.bind (f_m_led a0 h) fun r1 => (if (hi r1.2 1262 76) = 0 then (Option.bind (f_m_number r1.1 4 r1.2) fun r5 => (if (lg_cmp ((((Int32.toInt64 r1.1) + (4 : Int64)) + r5.1) + (1 : Int64)) (Int32.toInt64 (hi r5.2 1262 75))) ≤ 0 then (if 0 ≤ ((r1.1 + 4) + (Int64.toInt32 r5.1)) ∧ ((r1.1 + 4) + (Int64.toInt32 r5.1)) < nI 4000 then (if (hi r5.2 1310 (Int32.toNatClampNeg ((r1.1 + 4) + (Int64.toInt32 r5.1)))) = 0 then (some ((), r5.2)) else (Option.bind (f_m_wrong 14 ((r1.1 + 4) + (Int64.toInt32 r5.1)) r5.2) fun r11 => (some ((), r11.2)))) else none) else (Option.bind (f_m_wrong 13 r1.1 r5.2) fun r14 => (some ((), r14.2))))) else (some ((), r1.2))))
set_option maxRecDepth 20000 in
theorem kf_m_toText {l : Launch} {G : XG} {d : Nat} {a0 : Int32} {h : XH} {r : Unit × XH} (L0 : LY h) (hf : f_m_toText a0 h = some r) : XC l G xEX12_toText (d + 2) [.ref 1262, .int a0] h (fun v h2 => (h2 = r.2 ∧ v = none) ∧ LY r.2) := by
  refine XC.virt xvX12_toText (Nat.le_of_ble_eq_true rfl) ?_
  unfold f_m_toText at hf
  refine XR.norm (L3 := [some (.ref 1262), some (.int a0), none, none, none]) rfl ?_
  refine XS.go (s_aloadn rfl rfl rfl) ?_
  refine XS.go (s_iloadn rfl rfl rfl) ?_
  replace hf := xb_some hf
  obtain ⟨r1, e2, hf⟩ := hf
  refine r_callv rfl xvX12_led xm12_473 (kf_m_led (d := d) L0 e2) (LY.lt L0 (by decide)) (LY.k1262 L0) (by decide) rfl rfl (dl (by decide)) (by decide) (Nat.le_of_ble_eq_true rfl) ?_
  rintro _ _ ⟨⟨rfl, rfl⟩, L3⟩
  refine XS.go (XS.lcl (L3 := [some (.ref 1262), some (.int a0), some (.int r1.1), none, none]) (s_istoren rfl rfl (Nat.le_of_ble_eq_true rfl)) rfl) ?_
  refine XS.go (s_aloadn rfl rfl rfl) ?_
  refine XS.go (s_getie rfl xf12_450 (LY.lt L3 (by decide)) (LY.k1262 L3) (by decide) rfl rfl) ?_
  refine r_if_eq (tgt := 14) rfl rfl (fun qc4 => ?_) (fun qc4 => ?_)
  · replace hf := xi_pos hf qc4
    refine XS.go (s_aloadn rfl rfl rfl) ?_
    refine XS.go (s_iloadn rfl rfl rfl) ?_
    refine XS.go (s_iconst (v := 4) rfl rfl) ?_
    replace hf := xb_some hf
    obtain ⟨r5, e6, hf⟩ := hf
    refine r_callv rfl xvX12_number xm12_467 (kf_m_number (d := d) L3 e6) (LY.lt L3 (by decide)) (LY.k1262 L3) (by decide) rfl rfl (dl0 (by decide)) (by decide) (Nat.le_of_ble_eq_true rfl) ?_
    rintro _ _ ⟨⟨rfl, rfl⟩, L7⟩
    refine XS.go (XS.lcl (L3 := [some (.ref 1262), some (.int a0), some (.int r1.1), some (.long r5.1), none]) (s_lstoren rfl rfl (Nat.le_of_ble_eq_true rfl)) rfl) ?_
    refine XS.go (s_iloadn rfl rfl rfl) ?_
    refine XS.go (s_i2l rfl) ?_
    refine XS.go (s_ldc2 rfl (lg_9 176 rfl rfl)) ?_
    refine XS.go (s_ladd rfl) ?_
    refine XS.go (s_lloadn rfl rfl rfl) ?_
    refine XS.go (s_ladd rfl) ?_
    refine XS.go (s_lconst (v := 1) rfl rfl) ?_
    refine XS.go (s_ladd rfl) ?_
    refine XS.go (s_aloadn rfl rfl rfl) ?_
    refine XS.go (s_getie rfl xf12_459 (LY.lt L7 (by decide)) (LY.k1262 L7) (by decide) rfl rfl) ?_
    refine XS.go (s_i2l rfl) ?_
    refine XS.go (s_lcmp rfl) ?_
    refine r_if_le (tgt := 50) rfl rfl (fun qc8 => ?_) (fun qc8 => ?_)
    · replace hf := xi_pos hf qc8
      refine XS.go (s_aloadn rfl rfl rfl) ?_
      refine XS.go (s_getr rfl xf12_157 (LY.lt L7 (by decide)) (LY.k1262 L7) (by decide) rfl (LY.r1262_74 L7)) ?_
      refine XS.go (s_iloadn rfl rfl rfl) ?_
      refine XS.go (s_iconst (v := 4) rfl rfl) ?_
      refine XS.go (s_iadd rfl) ?_
      refine XS.go (s_lloadn rfl rfl rfl) ?_
      refine XS.go (s_l2i rfl) ?_
      refine XS.go (s_iadd rfl) ?_
      replace hf := xi_none hf
      obtain ⟨qk9, hf⟩ := hf
      refine XS.go (s_ialde rfl (LY.lt L7 (by decide)) (LY.k1310 L7) (inLit (LY.n1310 L7) qk9.1 qk9.2 (by decide)) rfl) ?_
      refine r_if_eq (tgt := 76) rfl rfl (fun qc10 => ?_) (fun qc10 => ?_)
      · replace hf := xi_pos hf qc10
        cases hf
        exact XR.retv rfl rfl (fun hret => ⟨_, hret, ⟨rfl, rfl⟩, L7⟩)
      · replace hf := xi_neg hf qc10
        refine XS.go (s_aloadn rfl rfl rfl) ?_
        refine XS.go (s_bipush (v := 14) rfl rfl) ?_
        refine XS.go (s_iloadn rfl rfl rfl) ?_
        refine XS.go (s_iconst (v := 4) rfl rfl) ?_
        refine XS.go (s_iadd rfl) ?_
        refine XS.go (s_lloadn rfl rfl rfl) ?_
        refine XS.go (s_l2i rfl) ?_
        refine XS.go (s_iadd rfl) ?_
        replace hf := xb_some hf
        obtain ⟨r11, e12, hf⟩ := hf
        refine r_callv rfl xvX12_wrong xm12_462 (kf_m_wrong (d := d) L7 e12) (LY.lt L7 (by decide)) (LY.k1262 L7) (by decide) rfl rfl (dl0 (by decide)) (by decide) (Nat.le_of_ble_eq_true rfl) ?_
        rintro _ _ ⟨⟨rfl, rfl⟩, L13⟩
        cases hf
        exact XR.retv rfl rfl (fun hret => ⟨_, hret, ⟨rfl, rfl⟩, L13⟩)
    · replace hf := xi_neg hf qc8
      refine XS.go (s_aloadn rfl rfl rfl) ?_
      refine XS.go (s_bipush (v := 13) rfl rfl) ?_
      refine XS.go (s_iloadn rfl rfl rfl) ?_
      replace hf := xb_some hf
      obtain ⟨r14, e15, hf⟩ := hf
      refine r_callv rfl xvX12_wrong xm12_462 (kf_m_wrong (d := d) L7 e15) (LY.lt L7 (by decide)) (LY.k1262 L7) (by decide) rfl rfl (dl0 (by decide)) (by decide) (Nat.le_of_ble_eq_true rfl) ?_
      rintro _ _ ⟨⟨rfl, rfl⟩, L16⟩
      refine XS.go (s_goto (tgt := 76) rfl rfl) ?_
      cases hf
      exact XR.retv rfl rfl (fun hret => ⟨_, hret, ⟨rfl, rfl⟩, L16⟩)
  · replace hf := xi_neg hf qc4
    cases hf
    exact XR.retv rfl rfl (fun hret => ⟨_, hret, ⟨rfl, rfl⟩, L3⟩)
def b_m_toVector_205 (KT : Int32 → Int32 → Int32 → XH → Option (Unit × XH)) (K132 : Int32 → Int32 → Int32 → Int32 → Int32 → Int64 → Int32 → XH → Option (Unit × XH)) (x2 : Int32) (x3 : Int32) (x4 : Int32) (x5 : Int32) (x6 : Int32) (x8 : Int64) (x10 : Int32) (h : XH) : Option (Unit × XH) := (K132 x2 x3 x4 x5 x6 x8 (x10 + 1) h)
set_option maxRecDepth 20000 in
theorem kb_m_toVector_205 {l : Launch} {G : XG} {d : Nat} {KT : Int32 → Int32 → Int32 → XH → Option (Unit × XH)} {K132 : Int32 → Int32 → Int32 → Int32 → Int32 → Int64 → Int32 → XH → Option (Unit × XH)} {x2 : Int32} {x3 : Int32} {x4 : Int32} {x5 : Int32} {x6 : Int32} {x8 : Int64} {x10 : Int32} {h : XH} {r : Unit × XH} (hKT : ∀ (a0 : Int32) (a1 : Int32) (a2 : Int32) (h : XH) (r : Unit × XH), LY h → KT a0 a1 a2 h = some r → XC l G xEX12_toTable d [.ref 1262, .int a0, .int a1, .int a2] h (fun v h2 => (h2 = r.2 ∧ v = none) ∧ LY r.2)) (hK132 : ∀ (x2 : Int32) (x3 : Int32) (x4 : Int32) (x5 : Int32) (x6 : Int32) (x8 : Int64) (x10 : Int32) (h : XH), LY h → K132 x2 x3 x4 x5 x6 x8 x10 h = some r → XR l G xEX12_toVector (d + 3) (132, [some (.ref 1262), none, some (.int x2), some (.int x3), some (.int x4), some (.int x5), some (.int x6), none, some (.long x8), none, some (.int x10), none], [], h) (fun C => ∃ v, xRet xEX12_toVector C v ∧ (C.2.2.2 = r.2 ∧ v = none) ∧ LY r.2)) (L0 : LY h) (hf : b_m_toVector_205 KT K132 x2 x3 x4 x5 x6 x8 x10 h = some r) : XR l G xEX12_toVector (d + 3) (205, [some (.ref 1262), none, some (.int x2), some (.int x3), some (.int x4), some (.int x5), some (.int x6), none, some (.long x8), none, some (.int x10), none], [], h) (fun C => ∃ v, xRet xEX12_toVector C v ∧ (C.2.2.2 = r.2 ∧ v = none) ∧ LY r.2) := by
  unfold b_m_toVector_205 at hf
  refine XS.go (XS.lcl (L3 := [some (.ref 1262), none, some (.int x2), some (.int x3), some (.int x4), some (.int x5), some (.int x6), none, some (.long x8), none, some (.int (x10 + 1)), none]) (s_inc rfl rfl (Nat.le_of_ble_eq_true rfl)) rfl) ?_
  refine XS.go (s_goto (tgt := 132) rfl rfl) ?_
  exact XR.forget (L2 := [some (.ref 1262), none, some (.int x2), some (.int x3), some (.int x4), some (.int x5), some (.int x6), none, some (.long x8), none, some (.int (x10 + 1)), none]) ⟨rfl, ⟨rfl, ⟨rfl, ⟨rfl, ⟨rfl, ⟨rfl, ⟨rfl, ⟨rfl, trivial⟩⟩⟩⟩⟩⟩⟩⟩ (hK132 x2 x3 x4 x5 x6 x8 (x10 + 1) _ L0 hf)
def b_m_toVector_169 (KT : Int32 → Int32 → Int32 → XH → Option (Unit × XH)) (K132 : Int32 → Int32 → Int32 → Int32 → Int32 → Int64 → Int32 → XH → Option (Unit × XH)) (x2 : Int32) (x3 : Int32) (x4 : Int32) (x5 : Int32) (x6 : Int32) (x8 : Int64) (x10 : Int32) (x11 : Int32) (h : XH) : Option (Unit × XH) := (Option.bind (f_m_judgeValue x11 x2 x3 h) fun r1 => (b_m_toVector_205 KT K132 x2 x3 x4 x5 x6 x8 x10 r1.2))
set_option maxRecDepth 20000 in
theorem kb_m_toVector_169 {l : Launch} {G : XG} {d : Nat} {KT : Int32 → Int32 → Int32 → XH → Option (Unit × XH)} {K132 : Int32 → Int32 → Int32 → Int32 → Int32 → Int64 → Int32 → XH → Option (Unit × XH)} {x2 : Int32} {x3 : Int32} {x4 : Int32} {x5 : Int32} {x6 : Int32} {x8 : Int64} {x10 : Int32} {x11 : Int32} {h : XH} {r : Unit × XH} (hKT : ∀ (a0 : Int32) (a1 : Int32) (a2 : Int32) (h : XH) (r : Unit × XH), LY h → KT a0 a1 a2 h = some r → XC l G xEX12_toTable d [.ref 1262, .int a0, .int a1, .int a2] h (fun v h2 => (h2 = r.2 ∧ v = none) ∧ LY r.2)) (hK132 : ∀ (x2 : Int32) (x3 : Int32) (x4 : Int32) (x5 : Int32) (x6 : Int32) (x8 : Int64) (x10 : Int32) (h : XH), LY h → K132 x2 x3 x4 x5 x6 x8 x10 h = some r → XR l G xEX12_toVector (d + 3) (132, [some (.ref 1262), none, some (.int x2), some (.int x3), some (.int x4), some (.int x5), some (.int x6), none, some (.long x8), none, some (.int x10), none], [], h) (fun C => ∃ v, xRet xEX12_toVector C v ∧ (C.2.2.2 = r.2 ∧ v = none) ∧ LY r.2)) (L0 : LY h) (hf : b_m_toVector_169 KT K132 x2 x3 x4 x5 x6 x8 x10 x11 h = some r) : XR l G xEX12_toVector (d + 3) (169, [some (.ref 1262), none, some (.int x2), some (.int x3), some (.int x4), some (.int x5), some (.int x6), none, some (.long x8), none, some (.int x10), some (.int x11)], [], h) (fun C => ∃ v, xRet xEX12_toVector C v ∧ (C.2.2.2 = r.2 ∧ v = none) ∧ LY r.2) := by
  unfold b_m_toVector_169 at hf
  refine XS.go (s_aloadn rfl rfl rfl) ?_
  refine XS.go (s_iload rfl rfl) ?_
  refine XS.go (s_iloadn rfl rfl rfl) ?_
  refine XS.go (s_iloadn rfl rfl rfl) ?_
  replace hf := xb_some hf
  obtain ⟨r1, e2, hf⟩ := hf
  refine r_callv rfl xvX12_judgeValue xm12_491 (kf_m_judgeValue (d := d) L0 e2) (LY.lt L0 (by decide)) (LY.k1262 L0) (by decide) rfl rfl (dl (by decide)) (by decide) (Nat.le_of_ble_eq_true rfl) ?_
  rintro _ _ ⟨⟨rfl, rfl⟩, L3⟩
  refine XS.go (s_goto (tgt := 205) rfl rfl) ?_
  exact XR.forget (L2 := [some (.ref 1262), none, some (.int x2), some (.int x3), some (.int x4), some (.int x5), some (.int x6), none, some (.long x8), none, some (.int x10), none]) ⟨rfl, ⟨rfl, ⟨rfl, ⟨rfl, ⟨rfl, ⟨rfl, ⟨rfl, ⟨rfl, trivial⟩⟩⟩⟩⟩⟩⟩⟩ (kb_m_toVector_205 hKT hK132 L3 hf)
def s_m_toVector_132 (KT : Int32 → Int32 → Int32 → XH → Option (Unit × XH)) (K132 : Int32 → Int32 → Int32 → Int32 → Int32 → Int64 → Int32 → XH → Option (Unit × XH)) (x2 : Int32) (x3 : Int32) (x4 : Int32) (x5 : Int32) (x6 : Int32) (x8 : Int64) (x10 : Int32) (h : XH) : Option (Unit × XH) := (if ¬ (hi h 1262 76) = 0 then (some ((), h)) else (if 0 ≤ (lg_cmp (Int32.toInt64 x10) x8) then (some ((), h)) else (if x2 = 0 then (b_m_toVector_169 KT K132 x2 x3 x4 x5 x6 x8 x10 ((x5 + 4) + (x6 * x10)) h) else (if ¬ x2 = 2 then (if ¬ x2 = 1 then (Option.bind (KT ((x5 + 4) + (x6 * x10)) x3 (x4 + 1) h) fun r9 => (b_m_toVector_205 KT K132 x2 x3 x4 x5 x6 x8 x10 r9.2)) else (Option.bind (f_m_toText ((x5 + 4) + (x6 * x10)) h) fun r12 => (b_m_toVector_205 KT K132 x2 x3 x4 x5 x6 x8 x10 r12.2))) else (b_m_toVector_169 KT K132 x2 x3 x4 x5 x6 x8 x10 ((x5 + 4) + (x6 * x10)) h)))))
set_option maxRecDepth 20000 in
theorem ks_m_toVector_132 {l : Launch} {G : XG} {d : Nat} {KT : Int32 → Int32 → Int32 → XH → Option (Unit × XH)} {K132 : Int32 → Int32 → Int32 → Int32 → Int32 → Int64 → Int32 → XH → Option (Unit × XH)} {x2 : Int32} {x3 : Int32} {x4 : Int32} {x5 : Int32} {x6 : Int32} {x8 : Int64} {x10 : Int32} {h : XH} {r : Unit × XH} (hKT : ∀ (a0 : Int32) (a1 : Int32) (a2 : Int32) (h : XH) (r : Unit × XH), LY h → KT a0 a1 a2 h = some r → XC l G xEX12_toTable d [.ref 1262, .int a0, .int a1, .int a2] h (fun v h2 => (h2 = r.2 ∧ v = none) ∧ LY r.2)) (hK132 : ∀ (x2 : Int32) (x3 : Int32) (x4 : Int32) (x5 : Int32) (x6 : Int32) (x8 : Int64) (x10 : Int32) (h : XH), LY h → K132 x2 x3 x4 x5 x6 x8 x10 h = some r → XR l G xEX12_toVector (d + 3) (132, [some (.ref 1262), none, some (.int x2), some (.int x3), some (.int x4), some (.int x5), some (.int x6), none, some (.long x8), none, some (.int x10), none], [], h) (fun C => ∃ v, xRet xEX12_toVector C v ∧ (C.2.2.2 = r.2 ∧ v = none) ∧ LY r.2)) (L0 : LY h) (hf : s_m_toVector_132 KT K132 x2 x3 x4 x5 x6 x8 x10 h = some r) : XR l G xEX12_toVector (d + 3) (132, [some (.ref 1262), none, some (.int x2), some (.int x3), some (.int x4), some (.int x5), some (.int x6), none, some (.long x8), none, some (.int x10), none], [], h) (fun C => ∃ v, xRet xEX12_toVector C v ∧ (C.2.2.2 = r.2 ∧ v = none) ∧ LY r.2) := by
  unfold s_m_toVector_132 at hf
  refine XS.go (s_aloadn rfl rfl rfl) ?_
  refine XS.go (s_getie rfl xf12_450 (LY.lt L0 (by decide)) (LY.k1262 L0) (by decide) rfl rfl) ?_
  refine r_if_ne (tgt := 211) rfl rfl (fun qc4 => ?_) (fun qc4 => ?_)
  · replace hf := xi_pos hf qc4
    cases hf
    exact XR.retv rfl rfl (fun hret => ⟨_, hret, ⟨rfl, rfl⟩, L0⟩)
  · replace hf := xi_neg hf qc4
    refine XS.go (s_iload rfl rfl) ?_
    refine XS.go (s_i2l rfl) ?_
    refine XS.go (s_lload rfl rfl) ?_
    refine XS.go (s_lcmp rfl) ?_
    refine r_if_ge (tgt := 211) rfl rfl (fun qc5 => ?_) (fun qc5 => ?_)
    · replace hf := xi_pos hf qc5
      cases hf
      exact XR.retv rfl rfl (fun hret => ⟨_, hret, ⟨rfl, rfl⟩, L0⟩)
    · replace hf := xi_neg hf qc5
      refine XS.go (s_iload rfl rfl) ?_
      refine XS.go (s_iconst (v := 4) rfl rfl) ?_
      refine XS.go (s_iadd rfl) ?_
      refine XS.go (s_iload rfl rfl) ?_
      refine XS.go (s_iload rfl rfl) ?_
      refine XS.go (s_imul rfl) ?_
      refine XS.go (s_iadd rfl) ?_
      refine XS.go (XS.lcl (L3 := [some (.ref 1262), none, some (.int x2), some (.int x3), some (.int x4), some (.int x5), some (.int x6), none, some (.long x8), none, some (.int x10), some (.int ((x5 + 4) + (x6 * x10)))]) (s_istore rfl (Nat.le_of_ble_eq_true rfl)) rfl) ?_
      refine XS.go (s_iloadn rfl rfl rfl) ?_
      refine r_if_eq (tgt := 169) rfl rfl (fun qc6 => ?_) (fun qc6 => ?_)
      · replace hf := xi_pos hf qc6
        exact XR.forget (L2 := [some (.ref 1262), none, some (.int x2), some (.int x3), some (.int x4), some (.int x5), some (.int x6), none, some (.long x8), none, some (.int x10), some (.int ((x5 + 4) + (x6 * x10)))]) ⟨rfl, ⟨rfl, ⟨rfl, ⟨rfl, ⟨rfl, ⟨rfl, ⟨rfl, ⟨rfl, ⟨rfl, trivial⟩⟩⟩⟩⟩⟩⟩⟩⟩ (kb_m_toVector_169 hKT hK132 L0 hf)
      · replace hf := xi_neg hf qc6
        refine XS.go (s_iloadn rfl rfl rfl) ?_
        refine XS.go (s_iconst (v := 2) rfl rfl) ?_
        refine r_icmp_ne (tgt := 180) rfl rfl (fun qc7 => ?_) (fun qc7 => ?_)
        · replace hf := xi_pos hf qc7
          refine XS.go (s_iloadn rfl rfl rfl) ?_
          refine XS.go (s_iconst (v := 1) rfl rfl) ?_
          refine r_icmp_ne (tgt := 194) rfl rfl (fun qc8 => ?_) (fun qc8 => ?_)
          · replace hf := xi_pos hf qc8
            refine XS.go (s_aloadn rfl rfl rfl) ?_
            refine XS.go (s_iload rfl rfl) ?_
            refine XS.go (s_iloadn rfl rfl rfl) ?_
            refine XS.go (s_iload rfl rfl) ?_
            refine XS.go (s_iconst (v := 1) rfl rfl) ?_
            refine XS.go (s_iadd rfl) ?_
            replace hf := xb_some hf
            obtain ⟨r9, e10, hf⟩ := hf
            refine r_callv rfl xvX12_toTable xm12_464 (hKT ((x5 + 4) + (x6 * x10)) x3 (x4 + 1) h r9 L0 e10) (LY.lt L0 (by decide)) (LY.k1262 L0) (by decide) rfl rfl (dl0 (by decide)) (by decide) (Nat.le_of_ble_eq_true rfl) ?_
            rintro _ _ ⟨⟨rfl, rfl⟩, L11⟩
            exact XR.forget (L2 := [some (.ref 1262), none, some (.int x2), some (.int x3), some (.int x4), some (.int x5), some (.int x6), none, some (.long x8), none, some (.int x10), none]) ⟨rfl, ⟨rfl, ⟨rfl, ⟨rfl, ⟨rfl, ⟨rfl, ⟨rfl, ⟨rfl, trivial⟩⟩⟩⟩⟩⟩⟩⟩ (kb_m_toVector_205 hKT hK132 L11 hf)
          · replace hf := xi_neg hf qc8
            refine XS.go (s_aloadn rfl rfl rfl) ?_
            refine XS.go (s_iload rfl rfl) ?_
            replace hf := xb_some hf
            obtain ⟨r12, e13, hf⟩ := hf
            refine r_callv rfl xvX12_toText xm12_494 (kf_m_toText (d := d) L0 e13) (LY.lt L0 (by decide)) (LY.k1262 L0) (by decide) rfl rfl (dl (by decide)) (by decide) (Nat.le_of_ble_eq_true rfl) ?_
            rintro _ _ ⟨⟨rfl, rfl⟩, L14⟩
            refine XS.go (s_goto (tgt := 205) rfl rfl) ?_
            exact XR.forget (L2 := [some (.ref 1262), none, some (.int x2), some (.int x3), some (.int x4), some (.int x5), some (.int x6), none, some (.long x8), none, some (.int x10), none]) ⟨rfl, ⟨rfl, ⟨rfl, ⟨rfl, ⟨rfl, ⟨rfl, ⟨rfl, ⟨rfl, trivial⟩⟩⟩⟩⟩⟩⟩⟩ (kb_m_toVector_205 hKT hK132 L14 hf)
        · replace hf := xi_neg hf qc7
          exact XR.forget (L2 := [some (.ref 1262), none, some (.int x2), some (.int x3), some (.int x4), some (.int x5), some (.int x6), none, some (.long x8), none, some (.int x10), some (.int ((x5 + 4) + (x6 * x10)))]) ⟨rfl, ⟨rfl, ⟨rfl, ⟨rfl, ⟨rfl, ⟨rfl, ⟨rfl, ⟨rfl, ⟨rfl, trivial⟩⟩⟩⟩⟩⟩⟩⟩⟩ (kb_m_toVector_169 hKT hK132 L0 hf)
def b_m_toVector_132 (KT : Int32 → Int32 → Int32 → XH → Option (Unit × XH)) : Nat → Int32 → Int32 → Int32 → Int32 → Int32 → Int64 → Int32 → XH → Option (Unit × XH)
  | 0, _, _, _, _, _, _, _, _ => none
  | n + 1, x2, x3, x4, x5, x6, x8, x10, h => s_m_toVector_132 KT (b_m_toVector_132 KT n) x2 x3 x4 x5 x6 x8 x10 h
theorem kb_m_toVector_132 {l : Launch} {G : XG} {d : Nat} {KT : Int32 → Int32 → Int32 → XH → Option (Unit × XH)} {n : Nat} {x2 : Int32} {x3 : Int32} {x4 : Int32} {x5 : Int32} {x6 : Int32} {x8 : Int64} {x10 : Int32} {h : XH} {r : Unit × XH} (hKT : ∀ (a0 : Int32) (a1 : Int32) (a2 : Int32) (h : XH) (r : Unit × XH), LY h → KT a0 a1 a2 h = some r → XC l G xEX12_toTable d [.ref 1262, .int a0, .int a1, .int a2] h (fun v h2 => (h2 = r.2 ∧ v = none) ∧ LY r.2)) (L0 : LY h) (hf : b_m_toVector_132 KT n x2 x3 x4 x5 x6 x8 x10 h = some r) : XR l G xEX12_toVector (d + 3) (132, [some (.ref 1262), none, some (.int x2), some (.int x3), some (.int x4), some (.int x5), some (.int x6), none, some (.long x8), none, some (.int x10), none], [], h) (fun C => ∃ v, xRet xEX12_toVector C v ∧ (C.2.2.2 = r.2 ∧ v = none) ∧ LY r.2) := by
  induction n generalizing x2 x3 x4 x5 x6 x8 x10 h with
  | zero => cases hf
  | succ n ih => exact ks_m_toVector_132 hKT (fun x2 x3 x4 x5 x6 x8 x10 h L0 hf => ih (h := h) (x2 := x2) (x3 := x3) (x4 := x4) (x5 := x5) (x6 := x6) (x8 := x8) (x10 := x10) L0 hf) L0 hf
def b_m_toVector_129 (KT : Int32 → Int32 → Int32 → XH → Option (Unit × XH)) (x2 : Int32) (x3 : Int32) (x4 : Int32) (x5 : Int32) (x6 : Int32) (x8 : Int64) (h : XH) : Option (Unit × XH) := (b_m_toVector_132 KT 100000 x2 x3 x4 x5 x6 x8 0 h)
set_option maxRecDepth 20000 in
theorem kb_m_toVector_129 {l : Launch} {G : XG} {d : Nat} {KT : Int32 → Int32 → Int32 → XH → Option (Unit × XH)} {x2 : Int32} {x3 : Int32} {x4 : Int32} {x5 : Int32} {x6 : Int32} {x8 : Int64} {h : XH} {r : Unit × XH} (hKT : ∀ (a0 : Int32) (a1 : Int32) (a2 : Int32) (h : XH) (r : Unit × XH), LY h → KT a0 a1 a2 h = some r → XC l G xEX12_toTable d [.ref 1262, .int a0, .int a1, .int a2] h (fun v h2 => (h2 = r.2 ∧ v = none) ∧ LY r.2)) (L0 : LY h) (hf : b_m_toVector_129 KT x2 x3 x4 x5 x6 x8 h = some r) : XR l G xEX12_toVector (d + 3) (129, [some (.ref 1262), none, some (.int x2), some (.int x3), some (.int x4), some (.int x5), some (.int x6), none, some (.long x8), none, none, none], [], h) (fun C => ∃ v, xRet xEX12_toVector C v ∧ (C.2.2.2 = r.2 ∧ v = none) ∧ LY r.2) := by
  unfold b_m_toVector_129 at hf
  refine XS.go (s_iconst (v := 0) rfl rfl) ?_
  refine XS.go (XS.lcl (L3 := [some (.ref 1262), none, some (.int x2), some (.int x3), some (.int x4), some (.int x5), some (.int x6), none, some (.long x8), none, some (.int 0), none]) (s_istore rfl (Nat.le_of_ble_eq_true rfl)) rfl) ?_
  exact XR.forget (L2 := [some (.ref 1262), none, some (.int x2), some (.int x3), some (.int x4), some (.int x5), some (.int x6), none, some (.long x8), none, some (.int 0), none]) ⟨rfl, ⟨rfl, ⟨rfl, ⟨rfl, ⟨rfl, ⟨rfl, ⟨rfl, ⟨rfl, trivial⟩⟩⟩⟩⟩⟩⟩⟩ (kb_m_toVector_132 hKT L0 hf)
def b_m_toVector_67 (KT : Int32 → Int32 → Int32 → XH → Option (Unit × XH)) (x2 : Int32) (x3 : Int32) (x4 : Int32) (x5 : Int32) (x6 : Int32) (y0 : Int32) (h : XH) : Option (Unit × XH) := (Option.bind (f_m_number x5 4 h) fun r15 => (if ¬ y0 = 0 then (if ((x5 + 4) - (x5 + 4) / y0 * y0) = 0 then (if (lg_cmp (((Int32.toInt64 x5) + (4 : Int64)) + (r15.1 * (Int32.toInt64 x6))) (Int32.toInt64 (hi r15.2 1262 75))) ≤ 0 then (b_m_toVector_129 KT x2 x3 x4 x5 x6 r15.1 r15.2) else (Option.bind (f_m_wrong 13 x5 r15.2) fun r21 => (b_m_toVector_129 KT x2 x3 x4 x5 x6 r15.1 r21.2))) else (Option.bind (f_m_wrong 3 x5 r15.2) fun r24 => (b_m_toVector_129 KT x2 x3 x4 x5 x6 r15.1 r24.2))) else none))
set_option maxRecDepth 20000 in
theorem kb_m_toVector_67 {l : Launch} {G : XG} {d : Nat} {KT : Int32 → Int32 → Int32 → XH → Option (Unit × XH)} {x2 : Int32} {x3 : Int32} {x4 : Int32} {x5 : Int32} {x6 : Int32} {y0 : Int32} {h : XH} {r : Unit × XH} (hKT : ∀ (a0 : Int32) (a1 : Int32) (a2 : Int32) (h : XH) (r : Unit × XH), LY h → KT a0 a1 a2 h = some r → XC l G xEX12_toTable d [.ref 1262, .int a0, .int a1, .int a2] h (fun v h2 => (h2 = r.2 ∧ v = none) ∧ LY r.2)) (L0 : LY h) (hf : b_m_toVector_67 KT x2 x3 x4 x5 x6 y0 h = some r) : XR l G xEX12_toVector (d + 3) (67, [some (.ref 1262), none, some (.int x2), some (.int x3), some (.int x4), some (.int x5), some (.int x6), none, none, none, none, none], [(.int y0)], h) (fun C => ∃ v, xRet xEX12_toVector C v ∧ (C.2.2.2 = r.2 ∧ v = none) ∧ LY r.2) := by
  unfold b_m_toVector_67 at hf
  refine XS.go (XS.lcl (L3 := [some (.ref 1262), none, some (.int x2), some (.int x3), some (.int x4), some (.int x5), some (.int x6), some (.int y0), none, none, none, none]) (s_istore rfl (Nat.le_of_ble_eq_true rfl)) rfl) ?_
  refine XS.go (s_aloadn rfl rfl rfl) ?_
  refine XS.go (s_iload rfl rfl) ?_
  refine XS.go (s_iconst (v := 4) rfl rfl) ?_
  replace hf := xb_some hf
  obtain ⟨r15, e16, hf⟩ := hf
  refine r_callv rfl xvX12_number xm12_467 (kf_m_number (d := d) L0 e16) (LY.lt L0 (by decide)) (LY.k1262 L0) (by decide) rfl rfl (dl0 (by decide)) (by decide) (Nat.le_of_ble_eq_true rfl) ?_
  rintro _ _ ⟨⟨rfl, rfl⟩, L17⟩
  refine XS.go (XS.lcl (L3 := [some (.ref 1262), none, some (.int x2), some (.int x3), some (.int x4), some (.int x5), some (.int x6), some (.int y0), some (.long r15.1), none, none, none]) (s_lstore rfl (Nat.le_of_ble_eq_true rfl)) rfl) ?_
  refine XS.go (s_iload rfl rfl) ?_
  refine XS.go (s_iconst (v := 4) rfl rfl) ?_
  refine XS.go (s_iadd rfl) ?_
  refine XS.go (s_iload rfl rfl) ?_
  replace hf := xi_none hf
  obtain ⟨qk18, hf⟩ := hf
  refine XS.go (s_irem qk18 rfl) ?_
  refine r_if_eq (tgt := 98) rfl rfl (fun qc19 => ?_) (fun qc19 => ?_)
  · replace hf := xi_pos hf qc19
    refine XS.go (s_iload rfl rfl) ?_
    refine XS.go (s_i2l rfl) ?_
    refine XS.go (s_ldc2 rfl (lg_9 176 rfl rfl)) ?_
    refine XS.go (s_ladd rfl) ?_
    refine XS.go (s_lload rfl rfl) ?_
    refine XS.go (s_iload rfl rfl) ?_
    refine XS.go (s_i2l rfl) ?_
    refine XS.go (s_lmul rfl) ?_
    refine XS.go (s_ladd rfl) ?_
    refine XS.go (s_aloadn rfl rfl rfl) ?_
    refine XS.go (s_getie rfl xf12_459 (LY.lt L17 (by decide)) (LY.k1262 L17) (by decide) rfl rfl) ?_
    refine XS.go (s_i2l rfl) ?_
    refine XS.go (s_lcmp rfl) ?_
    refine r_if_le (tgt := 129) rfl rfl (fun qc20 => ?_) (fun qc20 => ?_)
    · replace hf := xi_pos hf qc20
      exact XR.forget (L2 := [some (.ref 1262), none, some (.int x2), some (.int x3), some (.int x4), some (.int x5), some (.int x6), none, some (.long r15.1), none, none, none]) ⟨rfl, ⟨rfl, ⟨rfl, ⟨rfl, ⟨rfl, ⟨rfl, ⟨rfl, trivial⟩⟩⟩⟩⟩⟩⟩ (kb_m_toVector_129 hKT L17 hf)
    · replace hf := xi_neg hf qc20
      refine XS.go (s_aloadn rfl rfl rfl) ?_
      refine XS.go (s_bipush (v := 13) rfl rfl) ?_
      refine XS.go (s_iload rfl rfl) ?_
      replace hf := xb_some hf
      obtain ⟨r21, e22, hf⟩ := hf
      refine r_callv rfl xvX12_wrong xm12_462 (kf_m_wrong (d := d) L17 e22) (LY.lt L17 (by decide)) (LY.k1262 L17) (by decide) rfl rfl (dl0 (by decide)) (by decide) (Nat.le_of_ble_eq_true rfl) ?_
      rintro _ _ ⟨⟨rfl, rfl⟩, L23⟩
      exact XR.forget (L2 := [some (.ref 1262), none, some (.int x2), some (.int x3), some (.int x4), some (.int x5), some (.int x6), none, some (.long r15.1), none, none, none]) ⟨rfl, ⟨rfl, ⟨rfl, ⟨rfl, ⟨rfl, ⟨rfl, ⟨rfl, trivial⟩⟩⟩⟩⟩⟩⟩ (kb_m_toVector_129 hKT L23 hf)
  · replace hf := xi_neg hf qc19
    refine XS.go (s_aloadn rfl rfl rfl) ?_
    refine XS.go (s_iconst (v := 3) rfl rfl) ?_
    refine XS.go (s_iload rfl rfl) ?_
    replace hf := xb_some hf
    obtain ⟨r24, e25, hf⟩ := hf
    refine r_callv rfl xvX12_wrong xm12_462 (kf_m_wrong (d := d) L17 e25) (LY.lt L17 (by decide)) (LY.k1262 L17) (by decide) rfl rfl (dl0 (by decide)) (by decide) (Nat.le_of_ble_eq_true rfl) ?_
    rintro _ _ ⟨⟨rfl, rfl⟩, L26⟩
    refine XS.go (s_goto (tgt := 129) rfl rfl) ?_
    exact XR.forget (L2 := [some (.ref 1262), none, some (.int x2), some (.int x3), some (.int x4), some (.int x5), some (.int x6), none, some (.long r15.1), none, none, none]) ⟨rfl, ⟨rfl, ⟨rfl, ⟨rfl, ⟨rfl, ⟨rfl, ⟨rfl, trivial⟩⟩⟩⟩⟩⟩⟩ (kb_m_toVector_129 hKT L26 hf)
def b_m_toVector_41 (KT : Int32 → Int32 → Int32 → XH → Option (Unit × XH)) (x2 : Int32) (x3 : Int32) (x4 : Int32) (x5 : Int32) (y0 : Int32) (h : XH) : Option (Unit × XH) := (if ¬ x2 = 0 then (if ¬ x2 = 2 then (b_m_toVector_67 KT x2 x3 x4 x5 y0 4 h) else (if 0 ≤ x3 ∧ x3 < nI 12 then (b_m_toVector_67 KT x2 x3 x4 x5 y0 (hi h 1275 (Int32.toNatClampNeg x3)) h) else none)) else (b_m_toVector_67 KT x2 x3 x4 x5 y0 y0 h))
set_option maxRecDepth 20000 in
theorem kb_m_toVector_41 {l : Launch} {G : XG} {d : Nat} {KT : Int32 → Int32 → Int32 → XH → Option (Unit × XH)} {x2 : Int32} {x3 : Int32} {x4 : Int32} {x5 : Int32} {y0 : Int32} {h : XH} {r : Unit × XH} (hKT : ∀ (a0 : Int32) (a1 : Int32) (a2 : Int32) (h : XH) (r : Unit × XH), LY h → KT a0 a1 a2 h = some r → XC l G xEX12_toTable d [.ref 1262, .int a0, .int a1, .int a2] h (fun v h2 => (h2 = r.2 ∧ v = none) ∧ LY r.2)) (L0 : LY h) (hf : b_m_toVector_41 KT x2 x3 x4 x5 y0 h = some r) : XR l G xEX12_toVector (d + 3) (41, [some (.ref 1262), none, some (.int x2), some (.int x3), some (.int x4), some (.int x5), none, none, none, none, none, none], [(.int y0)], h) (fun C => ∃ v, xRet xEX12_toVector C v ∧ (C.2.2.2 = r.2 ∧ v = none) ∧ LY r.2) := by
  unfold b_m_toVector_41 at hf
  refine XS.go (XS.lcl (L3 := [some (.ref 1262), none, some (.int x2), some (.int x3), some (.int x4), some (.int x5), some (.int y0), none, none, none, none, none]) (s_istore rfl (Nat.le_of_ble_eq_true rfl)) rfl) ?_
  refine XS.go (s_iloadn rfl rfl rfl) ?_
  refine r_if_ne (tgt := 52) rfl rfl (fun qc27 => ?_) (fun qc27 => ?_)
  · replace hf := xi_pos hf qc27
    refine XS.go (s_iloadn rfl rfl rfl) ?_
    refine XS.go (s_iconst (v := 2) rfl rfl) ?_
    refine r_icmp_ne (tgt := 66) rfl rfl (fun qc28 => ?_) (fun qc28 => ?_)
    · replace hf := xi_pos hf qc28
      refine XS.go (s_iconst (v := 4) rfl rfl) ?_
      exact XR.forget (L2 := [some (.ref 1262), none, some (.int x2), some (.int x3), some (.int x4), some (.int x5), some (.int y0), none, none, none, none, none]) ⟨rfl, ⟨rfl, ⟨rfl, ⟨rfl, ⟨rfl, ⟨rfl, trivial⟩⟩⟩⟩⟩⟩ (kb_m_toVector_67 hKT L0 hf)
    · replace hf := xi_neg hf qc28
      refine XS.go (s_aloadn rfl rfl rfl) ?_
      refine XS.go (s_getr rfl xf12_46 (LY.lt L0 (by decide)) (LY.k1262 L0) (by decide) rfl (LY.r1262_23 L0)) ?_
      refine XS.go (s_iloadn rfl rfl rfl) ?_
      replace hf := xi_none hf
      obtain ⟨qk29, hf⟩ := hf
      refine XS.go (s_ialde rfl (LY.lt L0 (by decide)) (LY.k1275 L0) (inLit (LY.n1275 L0) qk29.1 qk29.2 (by decide)) rfl) ?_
      refine XS.go (s_goto (tgt := 67) rfl rfl) ?_
      exact XR.forget (L2 := [some (.ref 1262), none, some (.int x2), some (.int x3), some (.int x4), some (.int x5), some (.int y0), none, none, none, none, none]) ⟨rfl, ⟨rfl, ⟨rfl, ⟨rfl, ⟨rfl, ⟨rfl, trivial⟩⟩⟩⟩⟩⟩ (kb_m_toVector_67 hKT L0 hf)
  · replace hf := xi_neg hf qc27
    refine XS.go (s_iload rfl rfl) ?_
    refine XS.go (s_goto (tgt := 67) rfl rfl) ?_
    exact XR.forget (L2 := [some (.ref 1262), none, some (.int x2), some (.int x3), some (.int x4), some (.int x5), some (.int y0), none, none, none, none, none]) ⟨rfl, ⟨rfl, ⟨rfl, ⟨rfl, ⟨rfl, ⟨rfl, trivial⟩⟩⟩⟩⟩⟩ (kb_m_toVector_67 hKT L0 hf)
def f_m_toVector (KT : Int32 → Int32 → Int32 → XH → Option (Unit × XH)) (a0 : Int32) (a1 : Int32) (a2 : Int32) (a3 : Int32) (h : XH) : Option (Unit × XH) := (Option.bind (f_m_led a0 h) fun r30 => (if (hi r30.2 1262 76) = 0 then (if ¬ a1 = 0 then (if ¬ a1 = 2 then (b_m_toVector_41 KT a1 a2 a3 r30.1 4 r30.2) else (if 0 ≤ a2 ∧ a2 < nI 12 then (b_m_toVector_41 KT a1 a2 a3 r30.1 (hi r30.2 1274 (Int32.toNatClampNeg a2)) r30.2) else none)) else (Option.bind (f_m_bytesOf a2 r30.2) fun r37 => (b_m_toVector_41 KT a1 a2 a3 r30.1 r37.1 r37.2))) else (some ((), r30.2))))
set_option maxRecDepth 20000 in
theorem kf_m_toVector {l : Launch} {G : XG} {d : Nat} {KT : Int32 → Int32 → Int32 → XH → Option (Unit × XH)} {a0 : Int32} {a1 : Int32} {a2 : Int32} {a3 : Int32} {h : XH} {r : Unit × XH} (hKT : ∀ (a0 : Int32) (a1 : Int32) (a2 : Int32) (h : XH) (r : Unit × XH), LY h → KT a0 a1 a2 h = some r → XC l G xEX12_toTable d [.ref 1262, .int a0, .int a1, .int a2] h (fun v h2 => (h2 = r.2 ∧ v = none) ∧ LY r.2)) (L0 : LY h) (hf : f_m_toVector KT a0 a1 a2 a3 h = some r) : XC l G xEX12_toVector (d + 3) [.ref 1262, .int a0, .int a1, .int a2, .int a3] h (fun v h2 => (h2 = r.2 ∧ v = none) ∧ LY r.2) := by
  refine XC.virt xvX12_toVector (Nat.le_of_ble_eq_true rfl) ?_
  unfold f_m_toVector at hf
  refine XR.norm (L3 := [some (.ref 1262), some (.int a0), some (.int a1), some (.int a2), some (.int a3), none, none, none, none, none, none, none]) rfl ?_
  refine XS.go (s_aloadn rfl rfl rfl) ?_
  refine XS.go (s_iloadn rfl rfl rfl) ?_
  replace hf := xb_some hf
  obtain ⟨r30, e31, hf⟩ := hf
  refine r_callv rfl xvX12_led xm12_473 (kf_m_led (d := d) L0 e31) (LY.lt L0 (by decide)) (LY.k1262 L0) (by decide) rfl rfl (dl (by decide)) (by decide) (Nat.le_of_ble_eq_true rfl) ?_
  rintro _ _ ⟨⟨rfl, rfl⟩, L32⟩
  refine XS.go (XS.lcl (L3 := [some (.ref 1262), some (.int a0), some (.int a1), some (.int a2), some (.int a3), some (.int r30.1), none, none, none, none, none, none]) (s_istore rfl (Nat.le_of_ble_eq_true rfl)) rfl) ?_
  refine XS.go (s_aloadn rfl rfl rfl) ?_
  refine XS.go (s_getie rfl xf12_450 (LY.lt L32 (by decide)) (LY.k1262 L32) (by decide) rfl rfl) ?_
  refine r_if_eq (tgt := 15) rfl rfl (fun qc33 => ?_) (fun qc33 => ?_)
  · replace hf := xi_pos hf qc33
    refine XS.go (s_iloadn rfl rfl rfl) ?_
    refine r_if_ne (tgt := 26) rfl rfl (fun qc34 => ?_) (fun qc34 => ?_)
    · replace hf := xi_pos hf qc34
      refine XS.go (s_iloadn rfl rfl rfl) ?_
      refine XS.go (s_iconst (v := 2) rfl rfl) ?_
      refine r_icmp_ne (tgt := 40) rfl rfl (fun qc35 => ?_) (fun qc35 => ?_)
      · replace hf := xi_pos hf qc35
        refine XS.go (s_iconst (v := 4) rfl rfl) ?_
        exact XR.forget (L2 := [some (.ref 1262), none, some (.int a1), some (.int a2), some (.int a3), some (.int r30.1), none, none, none, none, none, none]) ⟨rfl, ⟨rfl, ⟨rfl, ⟨rfl, ⟨rfl, trivial⟩⟩⟩⟩⟩ (kb_m_toVector_41 hKT L32 hf)
      · replace hf := xi_neg hf qc35
        refine XS.go (s_aloadn rfl rfl rfl) ?_
        refine XS.go (s_getr rfl xf12_43 (LY.lt L32 (by decide)) (LY.k1262 L32) (by decide) rfl (LY.r1262_22 L32)) ?_
        refine XS.go (s_iloadn rfl rfl rfl) ?_
        replace hf := xi_none hf
        obtain ⟨qk36, hf⟩ := hf
        refine XS.go (s_ialde rfl (LY.lt L32 (by decide)) (LY.k1274 L32) (inLit (LY.n1274 L32) qk36.1 qk36.2 (by decide)) rfl) ?_
        refine XS.go (s_goto (tgt := 41) rfl rfl) ?_
        exact XR.forget (L2 := [some (.ref 1262), none, some (.int a1), some (.int a2), some (.int a3), some (.int r30.1), none, none, none, none, none, none]) ⟨rfl, ⟨rfl, ⟨rfl, ⟨rfl, ⟨rfl, trivial⟩⟩⟩⟩⟩ (kb_m_toVector_41 hKT L32 hf)
    · replace hf := xi_neg hf qc34
      refine XS.go (s_iloadn rfl rfl rfl) ?_
      replace hf := xb_some hf
      obtain ⟨r37, e38, hf⟩ := hf
      refine r_calls rfl xsX12_bytesOf xm12_315 (kf_m_bytesOf (d := d) L32 e38) rfl rfl (dl0 (by decide)) (by decide) (Nat.le_of_ble_eq_true rfl) ?_
      rintro _ _ ⟨⟨rfl, rfl⟩, L39⟩
      refine XS.go (s_goto (tgt := 41) rfl rfl) ?_
      exact XR.forget (L2 := [some (.ref 1262), none, some (.int a1), some (.int a2), some (.int a3), some (.int r30.1), none, none, none, none, none, none]) ⟨rfl, ⟨rfl, ⟨rfl, ⟨rfl, ⟨rfl, trivial⟩⟩⟩⟩⟩ (kb_m_toVector_41 hKT L39 hf)
  · replace hf := xi_neg hf qc33
    cases hf
    exact XR.retv rfl rfl (fun hret => ⟨_, hret, ⟨rfl, rfl⟩, L32⟩)
def b_m_judgeField_150 (KT : Int32 → Int32 → Int32 → XH → Option (Unit × XH)) (x3 : Int32) (x5 : Int32) (x8 : Int32) (h : XH) : Option (Unit × XH) := (if 0 ≤ x3 ∧ x3 < nI 256 then (Option.bind (f_m_judgeValue x8 x5 (hi h 1287 (Int32.toNatClampNeg x3)) h) fun r2 => (some ((), r2.2))) else none)
set_option maxRecDepth 20000 in
theorem kb_m_judgeField_150 {l : Launch} {G : XG} {d : Nat} {KT : Int32 → Int32 → Int32 → XH → Option (Unit × XH)} {x3 : Int32} {x5 : Int32} {x8 : Int32} {h : XH} {r : Unit × XH} (hKT : ∀ (a0 : Int32) (a1 : Int32) (a2 : Int32) (h : XH) (r : Unit × XH), LY h → KT a0 a1 a2 h = some r → XC l G xEX12_toTable d [.ref 1262, .int a0, .int a1, .int a2] h (fun v h2 => (h2 = r.2 ∧ v = none) ∧ LY r.2)) (L0 : LY h) (hf : b_m_judgeField_150 KT x3 x5 x8 h = some r) : XR l G xEX12_judgeField (d + 4) (150, [some (.ref 1262), none, none, some (.int x3), none, some (.int x5), none, none, some (.int x8)], [], h) (fun C => ∃ v, xRet xEX12_judgeField C v ∧ (C.2.2.2 = r.2 ∧ v = none) ∧ LY r.2) := by
  unfold b_m_judgeField_150 at hf
  refine XS.go (s_aloadn rfl rfl rfl) ?_
  refine XS.go (s_iload rfl rfl) ?_
  refine XS.go (s_iload rfl rfl) ?_
  refine XS.go (s_aloadn rfl rfl rfl) ?_
  refine XS.go (s_getr rfl xf12_82 (LY.lt L0 (by decide)) (LY.k1262 L0) (by decide) rfl (LY.r1262_36 L0)) ?_
  refine XS.go (s_iloadn rfl rfl rfl) ?_
  replace hf := xi_none hf
  obtain ⟨qk1, hf⟩ := hf
  refine XS.go (s_ialde rfl (LY.lt L0 (by decide)) (LY.k1287 L0) (inLit (LY.n1287 L0) qk1.1 qk1.2 (by decide)) rfl) ?_
  replace hf := xb_some hf
  obtain ⟨r2, e3, hf⟩ := hf
  refine r_callv rfl xvX12_judgeValue xm12_491 (kf_m_judgeValue (d := d) L0 e3) (LY.lt L0 (by decide)) (LY.k1262 L0) (by decide) rfl rfl (dl (by decide)) (by decide) (Nat.le_of_ble_eq_true rfl) ?_
  rintro _ _ ⟨⟨rfl, rfl⟩, L4⟩
  refine XS.go (s_goto (tgt := 227) rfl rfl) ?_
  cases hf
  exact XR.retv rfl rfl (fun hret => ⟨_, hret, ⟨rfl, rfl⟩, L4⟩)
def b_m_judgeField_111 (KT : Int32 → Int32 → Int32 → XH → Option (Unit × XH)) (x1 : Int32) (x2 : Int32) (x3 : Int32) (x4 : Int32) (x5 : Int32) (x6 : Int32) (y0 : Int32) (h : XH) : Option (Unit × XH) := (if 0 ≤ x3 ∧ x3 < nI 256 then (Option.bind (f_m_stood x1 x2 (hi h 1289 (Int32.toNatClampNeg x3)) x6 y0 h) fun r6 => (if (hi r6.2 1262 76) = 0 then (if x5 = 0 then (b_m_judgeField_150 KT x3 x5 r6.1 r6.2) else (if ¬ x5 = 2 then (if ¬ x5 = 1 then (if ¬ x5 = 3 then (if 0 ≤ x3 ∧ x3 < nI 256 then (Option.bind (f_m_toVector KT r6.1 (hi r6.2 1288 (Int32.toNatClampNeg x3)) (hi r6.2 1287 (Int32.toNatClampNeg x3)) x4 r6.2) fun r15 => (some ((), r15.2))) else none) else (if 0 ≤ x3 ∧ x3 < nI 256 then (Option.bind (KT r6.1 (hi r6.2 1287 (Int32.toNatClampNeg x3)) (x4 + 1) r6.2) fun r19 => (some ((), r19.2))) else none)) else (Option.bind (f_m_toText r6.1 r6.2) fun r22 => (some ((), r22.2)))) else (b_m_judgeField_150 KT x3 x5 r6.1 r6.2))) else (some ((), r6.2)))) else none)
set_option maxRecDepth 20000 in
theorem kb_m_judgeField_111 {l : Launch} {G : XG} {d : Nat} {KT : Int32 → Int32 → Int32 → XH → Option (Unit × XH)} {x1 : Int32} {x2 : Int32} {x3 : Int32} {x4 : Int32} {x5 : Int32} {x6 : Int32} {y0 : Int32} {h : XH} {r : Unit × XH} (hKT : ∀ (a0 : Int32) (a1 : Int32) (a2 : Int32) (h : XH) (r : Unit × XH), LY h → KT a0 a1 a2 h = some r → XC l G xEX12_toTable d [.ref 1262, .int a0, .int a1, .int a2] h (fun v h2 => (h2 = r.2 ∧ v = none) ∧ LY r.2)) (L0 : LY h) (hf : b_m_judgeField_111 KT x1 x2 x3 x4 x5 x6 y0 h = some r) : XR l G xEX12_judgeField (d + 4) (111, [some (.ref 1262), some (.int x1), some (.int x2), some (.int x3), some (.int x4), some (.int x5), some (.int x6), none, none], [(.int y0)], h) (fun C => ∃ v, xRet xEX12_judgeField C v ∧ (C.2.2.2 = r.2 ∧ v = none) ∧ LY r.2) := by
  unfold b_m_judgeField_111 at hf
  refine XS.go (XS.lcl (L3 := [some (.ref 1262), some (.int x1), some (.int x2), some (.int x3), some (.int x4), some (.int x5), some (.int x6), some (.int y0), none]) (s_istore rfl (Nat.le_of_ble_eq_true rfl)) rfl) ?_
  refine XS.go (s_aloadn rfl rfl rfl) ?_
  refine XS.go (s_iloadn rfl rfl rfl) ?_
  refine XS.go (s_iloadn rfl rfl rfl) ?_
  refine XS.go (s_aloadn rfl rfl rfl) ?_
  refine XS.go (s_getr rfl xf12_88 (LY.lt L0 (by decide)) (LY.k1262 L0) (by decide) rfl (LY.r1262_38 L0)) ?_
  refine XS.go (s_iloadn rfl rfl rfl) ?_
  replace hf := xi_none hf
  obtain ⟨qk5, hf⟩ := hf
  refine XS.go (s_ialde rfl (LY.lt L0 (by decide)) (LY.k1289 L0) (inLit (LY.n1289 L0) qk5.1 qk5.2 (by decide)) rfl) ?_
  refine XS.go (s_iload rfl rfl) ?_
  refine XS.go (s_iload rfl rfl) ?_
  replace hf := xb_some hf
  obtain ⟨r6, e7, hf⟩ := hf
  refine r_callv rfl xvX12_stood xm12_487 (kf_m_stood (d := d) L0 e7) (LY.lt L0 (by decide)) (LY.k1262 L0) (by decide) rfl rfl (dl (by decide)) (by decide) (Nat.le_of_ble_eq_true rfl) ?_
  rintro _ _ ⟨⟨rfl, rfl⟩, L8⟩
  refine XS.go (XS.lcl (L3 := [some (.ref 1262), some (.int x1), some (.int x2), some (.int x3), some (.int x4), some (.int x5), some (.int x6), some (.int y0), some (.int r6.1)]) (s_istore rfl (Nat.le_of_ble_eq_true rfl)) rfl) ?_
  refine XS.go (s_aloadn rfl rfl rfl) ?_
  refine XS.go (s_getie rfl xf12_450 (LY.lt L8 (by decide)) (LY.k1262 L8) (by decide) rfl rfl) ?_
  refine r_if_eq (tgt := 139) rfl rfl (fun qc9 => ?_) (fun qc9 => ?_)
  · replace hf := xi_pos hf qc9
    refine XS.go (s_iload rfl rfl) ?_
    refine r_if_eq (tgt := 150) rfl rfl (fun qc10 => ?_) (fun qc10 => ?_)
    · replace hf := xi_pos hf qc10
      exact XR.forget (L2 := [some (.ref 1262), none, none, some (.int x3), none, some (.int x5), none, none, some (.int r6.1)]) ⟨rfl, ⟨rfl, ⟨rfl, ⟨rfl, trivial⟩⟩⟩⟩ (kb_m_judgeField_150 hKT L8 hf)
    · replace hf := xi_neg hf qc10
      refine XS.go (s_iload rfl rfl) ?_
      refine XS.go (s_iconst (v := 2) rfl rfl) ?_
      refine r_icmp_ne (tgt := 167) rfl rfl (fun qc11 => ?_) (fun qc11 => ?_)
      · replace hf := xi_pos hf qc11
        refine XS.go (s_iload rfl rfl) ?_
        refine XS.go (s_iconst (v := 1) rfl rfl) ?_
        refine r_icmp_ne (tgt := 182) rfl rfl (fun qc12 => ?_) (fun qc12 => ?_)
        · replace hf := xi_pos hf qc12
          refine XS.go (s_iload rfl rfl) ?_
          refine XS.go (s_iconst (v := 3) rfl rfl) ?_
          refine r_icmp_ne (tgt := 207) rfl rfl (fun qc13 => ?_) (fun qc13 => ?_)
          · replace hf := xi_pos hf qc13
            refine XS.go (s_aloadn rfl rfl rfl) ?_
            refine XS.go (s_iload rfl rfl) ?_
            refine XS.go (s_aloadn rfl rfl rfl) ?_
            refine XS.go (s_getr rfl xf12_85 (LY.lt L8 (by decide)) (LY.k1262 L8) (by decide) rfl (LY.r1262_37 L8)) ?_
            refine XS.go (s_iloadn rfl rfl rfl) ?_
            replace hf := xi_none hf
            obtain ⟨qk14, hf⟩ := hf
            refine XS.go (s_ialde rfl (LY.lt L8 (by decide)) (LY.k1288 L8) (inLit (LY.n1288 L8) qk14.1 qk14.2 (by decide)) rfl) ?_
            refine XS.go (s_aloadn rfl rfl rfl) ?_
            refine XS.go (s_getr rfl xf12_82 (LY.lt L8 (by decide)) (LY.k1262 L8) (by decide) rfl (LY.r1262_36 L8)) ?_
            refine XS.go (s_iloadn rfl rfl rfl) ?_
            refine XS.go (s_ialde rfl (LY.lt L8 (by decide)) (LY.k1287 L8) (inLit (LY.n1287 L8) qk14.1 qk14.2 (by decide)) rfl) ?_
            refine XS.go (s_iload rfl rfl) ?_
            replace hf := xb_some hf
            obtain ⟨r15, e16, hf⟩ := hf
            refine r_callv rfl xvX12_toVector xm12_497 (kf_m_toVector (d := d) hKT L8 e16) (LY.lt L8 (by decide)) (LY.k1262 L8) (by decide) rfl rfl (dl (by decide)) (by decide) (Nat.le_of_ble_eq_true rfl) ?_
            rintro _ _ ⟨⟨rfl, rfl⟩, L17⟩
            cases hf
            exact XR.retv rfl rfl (fun hret => ⟨_, hret, ⟨rfl, rfl⟩, L17⟩)
          · replace hf := xi_neg hf qc13
            refine XS.go (s_aloadn rfl rfl rfl) ?_
            refine XS.go (s_iload rfl rfl) ?_
            refine XS.go (s_aloadn rfl rfl rfl) ?_
            refine XS.go (s_getr rfl xf12_82 (LY.lt L8 (by decide)) (LY.k1262 L8) (by decide) rfl (LY.r1262_36 L8)) ?_
            refine XS.go (s_iloadn rfl rfl rfl) ?_
            replace hf := xi_none hf
            obtain ⟨qk18, hf⟩ := hf
            refine XS.go (s_ialde rfl (LY.lt L8 (by decide)) (LY.k1287 L8) (inLit (LY.n1287 L8) qk18.1 qk18.2 (by decide)) rfl) ?_
            refine XS.go (s_iload rfl rfl) ?_
            refine XS.go (s_iconst (v := 1) rfl rfl) ?_
            refine XS.go (s_iadd rfl) ?_
            replace hf := xb_some hf
            obtain ⟨r19, e20, hf⟩ := hf
            refine r_callv rfl xvX12_toTable xm12_464 (hKT r6.1 (hi r6.2 1287 (Int32.toNatClampNeg x3)) (x4 + 1) r6.2 r19 L8 e20) (LY.lt L8 (by decide)) (LY.k1262 L8) (by decide) rfl rfl (dl0 (by decide)) (by decide) (Nat.le_of_ble_eq_true rfl) ?_
            rintro _ _ ⟨⟨rfl, rfl⟩, L21⟩
            refine XS.go (s_goto (tgt := 227) rfl rfl) ?_
            cases hf
            exact XR.retv rfl rfl (fun hret => ⟨_, hret, ⟨rfl, rfl⟩, L21⟩)
        · replace hf := xi_neg hf qc12
          refine XS.go (s_aloadn rfl rfl rfl) ?_
          refine XS.go (s_iload rfl rfl) ?_
          replace hf := xb_some hf
          obtain ⟨r22, e23, hf⟩ := hf
          refine r_callv rfl xvX12_toText xm12_494 (kf_m_toText (d := d) L8 e23) (LY.lt L8 (by decide)) (LY.k1262 L8) (by decide) rfl rfl (dl (by decide)) (by decide) (Nat.le_of_ble_eq_true rfl) ?_
          rintro _ _ ⟨⟨rfl, rfl⟩, L24⟩
          refine XS.go (s_goto (tgt := 227) rfl rfl) ?_
          cases hf
          exact XR.retv rfl rfl (fun hret => ⟨_, hret, ⟨rfl, rfl⟩, L24⟩)
      · replace hf := xi_neg hf qc11
        exact XR.forget (L2 := [some (.ref 1262), none, none, some (.int x3), none, some (.int x5), none, none, some (.int r6.1)]) ⟨rfl, ⟨rfl, ⟨rfl, ⟨rfl, trivial⟩⟩⟩⟩ (kb_m_judgeField_150 hKT L8 hf)
  · replace hf := xi_neg hf qc9
    cases hf
    exact XR.retv rfl rfl (fun hret => ⟨_, hret, ⟨rfl, rfl⟩, L8⟩)
def b_m_judgeField_78 (KT : Int32 → Int32 → Int32 → XH → Option (Unit × XH)) (x1 : Int32) (x2 : Int32) (x3 : Int32) (x4 : Int32) (x5 : Int32) (y0 : Int32) (h : XH) : Option (Unit × XH) := (if ¬ x5 = 0 then (if ¬ x5 = 2 then (b_m_judgeField_111 KT x1 x2 x3 x4 x5 y0 4 h) else (if 0 ≤ x3 ∧ x3 < nI 256 then (if 0 ≤ (hi h 1287 (Int32.toNatClampNeg x3)) ∧ (hi h 1287 (Int32.toNatClampNeg x3)) < nI 12 then (b_m_judgeField_111 KT x1 x2 x3 x4 x5 y0 (hi h 1275 (Int32.toNatClampNeg (hi h 1287 (Int32.toNatClampNeg x3)))) h) else none) else none)) else (b_m_judgeField_111 KT x1 x2 x3 x4 x5 y0 y0 h))
set_option maxRecDepth 20000 in
theorem kb_m_judgeField_78 {l : Launch} {G : XG} {d : Nat} {KT : Int32 → Int32 → Int32 → XH → Option (Unit × XH)} {x1 : Int32} {x2 : Int32} {x3 : Int32} {x4 : Int32} {x5 : Int32} {y0 : Int32} {h : XH} {r : Unit × XH} (hKT : ∀ (a0 : Int32) (a1 : Int32) (a2 : Int32) (h : XH) (r : Unit × XH), LY h → KT a0 a1 a2 h = some r → XC l G xEX12_toTable d [.ref 1262, .int a0, .int a1, .int a2] h (fun v h2 => (h2 = r.2 ∧ v = none) ∧ LY r.2)) (L0 : LY h) (hf : b_m_judgeField_78 KT x1 x2 x3 x4 x5 y0 h = some r) : XR l G xEX12_judgeField (d + 4) (78, [some (.ref 1262), some (.int x1), some (.int x2), some (.int x3), some (.int x4), some (.int x5), none, none, none], [(.int y0)], h) (fun C => ∃ v, xRet xEX12_judgeField C v ∧ (C.2.2.2 = r.2 ∧ v = none) ∧ LY r.2) := by
  unfold b_m_judgeField_78 at hf
  refine XS.go (XS.lcl (L3 := [some (.ref 1262), some (.int x1), some (.int x2), some (.int x3), some (.int x4), some (.int x5), some (.int y0), none, none]) (s_istore rfl (Nat.le_of_ble_eq_true rfl)) rfl) ?_
  refine XS.go (s_iload rfl rfl) ?_
  refine r_if_ne (tgt := 90) rfl rfl (fun qc25 => ?_) (fun qc25 => ?_)
  · replace hf := xi_pos hf qc25
    refine XS.go (s_iload rfl rfl) ?_
    refine XS.go (s_iconst (v := 2) rfl rfl) ?_
    refine r_icmp_ne (tgt := 110) rfl rfl (fun qc26 => ?_) (fun qc26 => ?_)
    · replace hf := xi_pos hf qc26
      refine XS.go (s_iconst (v := 4) rfl rfl) ?_
      exact XR.forget (L2 := [some (.ref 1262), some (.int x1), some (.int x2), some (.int x3), some (.int x4), some (.int x5), some (.int y0), none, none]) ⟨rfl, ⟨rfl, ⟨rfl, ⟨rfl, ⟨rfl, ⟨rfl, ⟨rfl, trivial⟩⟩⟩⟩⟩⟩⟩ (kb_m_judgeField_111 hKT L0 hf)
    · replace hf := xi_neg hf qc26
      refine XS.go (s_aloadn rfl rfl rfl) ?_
      refine XS.go (s_getr rfl xf12_46 (LY.lt L0 (by decide)) (LY.k1262 L0) (by decide) rfl (LY.r1262_23 L0)) ?_
      refine XS.go (s_aloadn rfl rfl rfl) ?_
      refine XS.go (s_getr rfl xf12_82 (LY.lt L0 (by decide)) (LY.k1262 L0) (by decide) rfl (LY.r1262_36 L0)) ?_
      refine XS.go (s_iloadn rfl rfl rfl) ?_
      replace hf := xi_none hf
      obtain ⟨qk27, hf⟩ := hf
      refine XS.go (s_ialde rfl (LY.lt L0 (by decide)) (LY.k1287 L0) (inLit (LY.n1287 L0) qk27.1 qk27.2 (by decide)) rfl) ?_
      replace hf := xi_none hf
      obtain ⟨qk28, hf⟩ := hf
      refine XS.go (s_ialde rfl (LY.lt L0 (by decide)) (LY.k1275 L0) (inLit (LY.n1275 L0) qk28.1 qk28.2 (by decide)) rfl) ?_
      refine XS.go (s_goto (tgt := 111) rfl rfl) ?_
      exact XR.forget (L2 := [some (.ref 1262), some (.int x1), some (.int x2), some (.int x3), some (.int x4), some (.int x5), some (.int y0), none, none]) ⟨rfl, ⟨rfl, ⟨rfl, ⟨rfl, ⟨rfl, ⟨rfl, ⟨rfl, trivial⟩⟩⟩⟩⟩⟩⟩ (kb_m_judgeField_111 hKT L0 hf)
  · replace hf := xi_neg hf qc25
    refine XS.go (s_iload rfl rfl) ?_
    refine XS.go (s_goto (tgt := 111) rfl rfl) ?_
    exact XR.forget (L2 := [some (.ref 1262), some (.int x1), some (.int x2), some (.int x3), some (.int x4), some (.int x5), some (.int y0), none, none]) ⟨rfl, ⟨rfl, ⟨rfl, ⟨rfl, ⟨rfl, ⟨rfl, ⟨rfl, trivial⟩⟩⟩⟩⟩⟩⟩ (kb_m_judgeField_111 hKT L0 hf)
def f_m_judgeField (KT : Int32 → Int32 → Int32 → XH → Option (Unit × XH)) (a0 : Int32) (a1 : Int32) (a2 : Int32) (a3 : Int32) (h : XH) : Option (Unit × XH) := (if 0 ≤ a2 ∧ a2 < nI 256 then (Option.bind (f_m_far a1 (hi h 1289 (Int32.toNatClampNeg a2)) h) fun r30 => (if ¬ r30.1 = 0 then (if 0 ≤ a2 ∧ a2 < nI 256 then (if ¬ (hi r30.2 1286 (Int32.toNatClampNeg a2)) = 0 then (if ¬ (hi r30.2 1286 (Int32.toNatClampNeg a2)) = 2 then (b_m_judgeField_78 KT a0 a1 a2 a3 (hi r30.2 1286 (Int32.toNatClampNeg a2)) 4 r30.2) else (if 0 ≤ (hi r30.2 1287 (Int32.toNatClampNeg a2)) ∧ (hi r30.2 1287 (Int32.toNatClampNeg a2)) < nI 12 then (b_m_judgeField_78 KT a0 a1 a2 a3 (hi r30.2 1286 (Int32.toNatClampNeg a2)) (hi r30.2 1274 (Int32.toNatClampNeg (hi r30.2 1287 (Int32.toNatClampNeg a2)))) r30.2) else none)) else (Option.bind (f_m_bytesOf (hi r30.2 1287 (Int32.toNatClampNeg a2)) r30.2) fun r38 => (b_m_judgeField_78 KT a0 a1 a2 a3 (hi r30.2 1286 (Int32.toNatClampNeg a2)) r38.1 r38.2))) else none) else (if 0 ≤ a2 ∧ a2 < nI 256 then (if ¬ (hi r30.2 1290 (Int32.toNatClampNeg a2)) = 1 then (some ((), r30.2)) else (Option.bind (f_m_wrong 9 a0 r30.2) fun r43 => (some ((), r43.2)))) else none))) else none)
set_option maxRecDepth 20000 in
theorem kf_m_judgeField {l : Launch} {G : XG} {d : Nat} {KT : Int32 → Int32 → Int32 → XH → Option (Unit × XH)} {a0 : Int32} {a1 : Int32} {a2 : Int32} {a3 : Int32} {h : XH} {r : Unit × XH} (hKT : ∀ (a0 : Int32) (a1 : Int32) (a2 : Int32) (h : XH) (r : Unit × XH), LY h → KT a0 a1 a2 h = some r → XC l G xEX12_toTable d [.ref 1262, .int a0, .int a1, .int a2] h (fun v h2 => (h2 = r.2 ∧ v = none) ∧ LY r.2)) (L0 : LY h) (hf : f_m_judgeField KT a0 a1 a2 a3 h = some r) : XC l G xEX12_judgeField (d + 4) [.ref 1262, .int a0, .int a1, .int a2, .int a3] h (fun v h2 => (h2 = r.2 ∧ v = none) ∧ LY r.2) := by
  refine XC.virt xvX12_judgeField (Nat.le_of_ble_eq_true rfl) ?_
  unfold f_m_judgeField at hf
  refine XR.norm (L3 := [some (.ref 1262), some (.int a0), some (.int a1), some (.int a2), some (.int a3), none, none, none, none]) rfl ?_
  refine XS.go (s_aloadn rfl rfl rfl) ?_
  refine XS.go (s_iloadn rfl rfl rfl) ?_
  refine XS.go (s_aloadn rfl rfl rfl) ?_
  refine XS.go (s_getr rfl xf12_88 (LY.lt L0 (by decide)) (LY.k1262 L0) (by decide) rfl (LY.r1262_38 L0)) ?_
  refine XS.go (s_iloadn rfl rfl rfl) ?_
  replace hf := xi_none hf
  obtain ⟨qk29, hf⟩ := hf
  refine XS.go (s_ialde rfl (LY.lt L0 (by decide)) (LY.k1289 L0) (inLit (LY.n1289 L0) qk29.1 qk29.2 (by decide)) rfl) ?_
  replace hf := xb_some hf
  obtain ⟨r30, e31, hf⟩ := hf
  refine r_callv rfl xvX12_far xm12_484 (kf_m_far (d := d) L0 e31) (LY.lt L0 (by decide)) (LY.k1262 L0) (by decide) rfl rfl (dl (by decide)) (by decide) (Nat.le_of_ble_eq_true rfl) ?_
  rintro _ _ ⟨⟨rfl, rfl⟩, L32⟩
  refine r_if_ne (tgt := 32) rfl rfl (fun qc33 => ?_) (fun qc33 => ?_)
  · replace hf := xi_pos hf qc33
    refine XS.go (s_aloadn rfl rfl rfl) ?_
    refine XS.go (s_getr rfl xf12_79 (LY.lt L32 (by decide)) (LY.k1262 L32) (by decide) rfl (LY.r1262_35 L32)) ?_
    refine XS.go (s_iloadn rfl rfl rfl) ?_
    replace hf := xi_none hf
    obtain ⟨qk34, hf⟩ := hf
    refine XS.go (s_ialde rfl (LY.lt L32 (by decide)) (LY.k1286 L32) (inLit (LY.n1286 L32) qk34.1 qk34.2 (by decide)) rfl) ?_
    refine XS.go (XS.lcl (L3 := [some (.ref 1262), some (.int a0), some (.int a1), some (.int a2), some (.int a3), some (.int (hi r30.2 1286 (Int32.toNatClampNeg a2))), none, none, none]) (s_istore rfl (Nat.le_of_ble_eq_true rfl)) rfl) ?_
    refine XS.go (s_iload rfl rfl) ?_
    refine r_if_ne (tgt := 57) rfl rfl (fun qc35 => ?_) (fun qc35 => ?_)
    · replace hf := xi_pos hf qc35
      refine XS.go (s_iload rfl rfl) ?_
      refine XS.go (s_iconst (v := 2) rfl rfl) ?_
      refine r_icmp_ne (tgt := 77) rfl rfl (fun qc36 => ?_) (fun qc36 => ?_)
      · replace hf := xi_pos hf qc36
        refine XS.go (s_iconst (v := 4) rfl rfl) ?_
        exact XR.forget (L2 := [some (.ref 1262), some (.int a0), some (.int a1), some (.int a2), some (.int a3), some (.int (hi r30.2 1286 (Int32.toNatClampNeg a2))), none, none, none]) ⟨rfl, ⟨rfl, ⟨rfl, ⟨rfl, ⟨rfl, ⟨rfl, trivial⟩⟩⟩⟩⟩⟩ (kb_m_judgeField_78 hKT L32 hf)
      · replace hf := xi_neg hf qc36
        refine XS.go (s_aloadn rfl rfl rfl) ?_
        refine XS.go (s_getr rfl xf12_43 (LY.lt L32 (by decide)) (LY.k1262 L32) (by decide) rfl (LY.r1262_22 L32)) ?_
        refine XS.go (s_aloadn rfl rfl rfl) ?_
        refine XS.go (s_getr rfl xf12_82 (LY.lt L32 (by decide)) (LY.k1262 L32) (by decide) rfl (LY.r1262_36 L32)) ?_
        refine XS.go (s_iloadn rfl rfl rfl) ?_
        refine XS.go (s_ialde rfl (LY.lt L32 (by decide)) (LY.k1287 L32) (inLit (LY.n1287 L32) qk34.1 qk34.2 (by decide)) rfl) ?_
        replace hf := xi_none hf
        obtain ⟨qk37, hf⟩ := hf
        refine XS.go (s_ialde rfl (LY.lt L32 (by decide)) (LY.k1274 L32) (inLit (LY.n1274 L32) qk37.1 qk37.2 (by decide)) rfl) ?_
        refine XS.go (s_goto (tgt := 78) rfl rfl) ?_
        exact XR.forget (L2 := [some (.ref 1262), some (.int a0), some (.int a1), some (.int a2), some (.int a3), some (.int (hi r30.2 1286 (Int32.toNatClampNeg a2))), none, none, none]) ⟨rfl, ⟨rfl, ⟨rfl, ⟨rfl, ⟨rfl, ⟨rfl, trivial⟩⟩⟩⟩⟩⟩ (kb_m_judgeField_78 hKT L32 hf)
    · replace hf := xi_neg hf qc35
      refine XS.go (s_aloadn rfl rfl rfl) ?_
      refine XS.go (s_getr rfl xf12_82 (LY.lt L32 (by decide)) (LY.k1262 L32) (by decide) rfl (LY.r1262_36 L32)) ?_
      refine XS.go (s_iloadn rfl rfl rfl) ?_
      refine XS.go (s_ialde rfl (LY.lt L32 (by decide)) (LY.k1287 L32) (inLit (LY.n1287 L32) qk34.1 qk34.2 (by decide)) rfl) ?_
      replace hf := xb_some hf
      obtain ⟨r38, e39, hf⟩ := hf
      refine r_calls rfl xsX12_bytesOf xm12_315 (kf_m_bytesOf (d := d) L32 e39) rfl rfl (dl0 (by decide)) (by decide) (Nat.le_of_ble_eq_true rfl) ?_
      rintro _ _ ⟨⟨rfl, rfl⟩, L40⟩
      refine XS.go (s_goto (tgt := 78) rfl rfl) ?_
      exact XR.forget (L2 := [some (.ref 1262), some (.int a0), some (.int a1), some (.int a2), some (.int a3), some (.int (hi r30.2 1286 (Int32.toNatClampNeg a2))), none, none, none]) ⟨rfl, ⟨rfl, ⟨rfl, ⟨rfl, ⟨rfl, ⟨rfl, trivial⟩⟩⟩⟩⟩⟩ (kb_m_judgeField_78 hKT L40 hf)
  · replace hf := xi_neg hf qc33
    refine XS.go (s_aloadn rfl rfl rfl) ?_
    refine XS.go (s_getr rfl xf12_91 (LY.lt L32 (by decide)) (LY.k1262 L32) (by decide) rfl (LY.r1262_39 L32)) ?_
    refine XS.go (s_iloadn rfl rfl rfl) ?_
    replace hf := xi_none hf
    obtain ⟨qk41, hf⟩ := hf
    refine XS.go (s_ialde rfl (LY.lt L32 (by decide)) (LY.k1290 L32) (inLit (LY.n1290 L32) qk41.1 qk41.2 (by decide)) rfl) ?_
    refine XS.go (s_iconst (v := 1) rfl rfl) ?_
    refine r_icmp_ne (tgt := 31) rfl rfl (fun qc42 => ?_) (fun qc42 => ?_)
    · replace hf := xi_pos hf qc42
      cases hf
      exact XR.retv rfl rfl (fun hret => ⟨_, hret, ⟨rfl, rfl⟩, L32⟩)
    · replace hf := xi_neg hf qc42
      refine XS.go (s_aloadn rfl rfl rfl) ?_
      refine XS.go (s_bipush (v := 9) rfl rfl) ?_
      refine XS.go (s_iloadn rfl rfl rfl) ?_
      replace hf := xb_some hf
      obtain ⟨r43, e44, hf⟩ := hf
      refine r_callv rfl xvX12_wrong xm12_462 (kf_m_wrong (d := d) L32 e44) (LY.lt L32 (by decide)) (LY.k1262 L32) (by decide) rfl rfl (dl0 (by decide)) (by decide) (Nat.le_of_ble_eq_true rfl) ?_
      rintro _ _ ⟨⟨rfl, rfl⟩, L45⟩
      cases hf
      exact XR.retv rfl rfl (fun hret => ⟨_, hret, ⟨rfl, rfl⟩, L45⟩)
