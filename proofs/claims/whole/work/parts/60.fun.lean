/-! Methods as functions of the heap -/
def s_m_begin_73 (K73 : Int32 → XH → Option (Unit × XH)) (x2 : Int32) (h : XH) : Option (Unit × XH) := (if 32 ≤ x2 then (some ((), h)) else (if 0 ≤ x2 ∧ x2 < nI 32 then (K73 (x2 + 1) (hsi h 1307 (Int32.toNatClampNeg x2) 0)) else none))
set_option maxRecDepth 20000 in
theorem ks_m_begin_73 {l : Launch} {G : XG} {d : Nat} {K73 : Int32 → XH → Option (Unit × XH)} {x2 : Int32} {h : XH} {r : Unit × XH} (hK73 : ∀ (x2 : Int32) (h : XH), LY h → K73 x2 h = some r → XR l G xEX12_begin (d + 1) (73, [some (.ref 1262), none, some (.int x2)], [], h) (fun C => ∃ v, xRet xEX12_begin C v ∧ (C.2.2.2 = r.2 ∧ v = none) ∧ LY r.2)) (L0 : LY h) (hf : s_m_begin_73 K73 x2 h = some r) : XR l G xEX12_begin (d + 1) (73, [some (.ref 1262), none, some (.int x2)], [], h) (fun C => ∃ v, xRet xEX12_begin C v ∧ (C.2.2.2 = r.2 ∧ v = none) ∧ LY r.2) := by
  unfold s_m_begin_73 at hf
  refine XS.go (s_iloadn rfl rfl rfl) ?_
  refine XS.go (s_bipush (v := 32) rfl rfl) ?_
  refine r_icmp_ge (tgt := 92) rfl rfl (fun qc1 => ?_) (fun qc1 => ?_)
  · replace hf := xi_pos hf qc1
    cases hf
    exact XR.retv rfl rfl (fun hret => ⟨_, hret, ⟨rfl, rfl⟩, L0⟩)
  · replace hf := xi_neg hf qc1
    refine XS.go (s_aloadn rfl rfl rfl) ?_
    refine XS.go (s_getr rfl xf12_148 (LY.lt L0 (by decide)) (LY.k1262 L0) (by decide) rfl (LY.r1262_70 L0)) ?_
    refine XS.go (s_iloadn rfl rfl rfl) ?_
    refine XS.go (s_iconst (v := 0) rfl rfl) ?_
    replace hf := xi_none hf
    obtain ⟨qk2, hf⟩ := hf
    refine XS.go (s_iast rfl (LY.lt L0 (by decide)) (LY.k1307 L0) (inLit (LY.n1307 L0) qk2.1 qk2.2 (by decide))) ?_
    refine XS.go (XS.lcl (L3 := [some (.ref 1262), none, some (.int (x2 + 1))]) (s_inc rfl rfl (Nat.le_of_ble_eq_true rfl)) rfl) ?_
    refine XS.go (s_goto (tgt := 73) rfl rfl) ?_
    exact XR.forget (L2 := [some (.ref 1262), none, some (.int (x2 + 1))]) ⟨rfl, ⟨rfl, trivial⟩⟩ (hK73 (x2 + 1) _ (by simp only [LY_si, LY_sj]; exact L0) hf)
def b_m_begin_73 : Nat → Int32 → XH → Option (Unit × XH)
  | 0, _, _ => none
  | n + 1, x2, h => s_m_begin_73 (b_m_begin_73 n) x2 h
theorem kb_m_begin_73 {l : Launch} {G : XG} {d : Nat} {n : Nat} {x2 : Int32} {h : XH} {r : Unit × XH} (L0 : LY h) (hf : b_m_begin_73 n x2 h = some r) : XR l G xEX12_begin (d + 1) (73, [some (.ref 1262), none, some (.int x2)], [], h) (fun C => ∃ v, xRet xEX12_begin C v ∧ (C.2.2.2 = r.2 ∧ v = none) ∧ LY r.2) := by
  induction n generalizing x2 h with
  | zero => cases hf
  | succ n ih => exact ks_m_begin_73 (fun x2 h L0 hf => ih (h := h) (x2 := x2) L0 hf) L0 hf
def s_m_begin_52 (K52 : Int32 → XH → Option (Unit × XH)) (x2 : Int32) (h : XH) : Option (Unit × XH) := (if 16 ≤ x2 then (b_m_begin_73 100000 0 h) else (if 0 ≤ x2 ∧ x2 < nI 16 then (K52 (x2 + 1) (hsi h 1306 (Int32.toNatClampNeg x2) (vp_nar .boolean 0))) else none))
set_option maxRecDepth 20000 in
theorem ks_m_begin_52 {l : Launch} {G : XG} {d : Nat} {K52 : Int32 → XH → Option (Unit × XH)} {x2 : Int32} {h : XH} {r : Unit × XH} (hK52 : ∀ (x2 : Int32) (h : XH), LY h → K52 x2 h = some r → XR l G xEX12_begin (d + 1) (52, [some (.ref 1262), none, some (.int x2)], [], h) (fun C => ∃ v, xRet xEX12_begin C v ∧ (C.2.2.2 = r.2 ∧ v = none) ∧ LY r.2)) (L0 : LY h) (hf : s_m_begin_52 K52 x2 h = some r) : XR l G xEX12_begin (d + 1) (52, [some (.ref 1262), none, some (.int x2)], [], h) (fun C => ∃ v, xRet xEX12_begin C v ∧ (C.2.2.2 = r.2 ∧ v = none) ∧ LY r.2) := by
  unfold s_m_begin_52 at hf
  refine XS.go (s_iloadn rfl rfl rfl) ?_
  refine XS.go (s_bipush (v := 16) rfl rfl) ?_
  refine r_icmp_ge (tgt := 71) rfl rfl (fun qc3 => ?_) (fun qc3 => ?_)
  · replace hf := xi_pos hf qc3
    refine XS.go (s_iconst (v := 0) rfl rfl) ?_
    refine XS.go (XS.lcl (L3 := [some (.ref 1262), none, some (.int 0)]) (s_istoren rfl rfl (Nat.le_of_ble_eq_true rfl)) rfl) ?_
    exact XR.forget (L2 := [some (.ref 1262), none, some (.int 0)]) ⟨rfl, ⟨rfl, trivial⟩⟩ (kb_m_begin_73 L0 hf)
  · replace hf := xi_neg hf qc3
    refine XS.go (s_aloadn rfl rfl rfl) ?_
    refine XS.go (s_getr rfl xf12_144 (LY.lt L0 (by decide)) (LY.k1262 L0) (by decide) rfl (LY.r1262_69 L0)) ?_
    refine XS.go (s_iloadn rfl rfl rfl) ?_
    refine XS.go (s_iconst (v := 0) rfl rfl) ?_
    replace hf := xi_none hf
    obtain ⟨qk4, hf⟩ := hf
    refine XS.go (s_zast rfl (LY.lt L0 (by decide)) (LY.k1306 L0) (inLit (LY.n1306 L0) qk4.1 qk4.2 (by decide))) ?_
    refine XS.go (XS.lcl (L3 := [some (.ref 1262), none, some (.int (x2 + 1))]) (s_inc rfl rfl (Nat.le_of_ble_eq_true rfl)) rfl) ?_
    refine XS.go (s_goto (tgt := 52) rfl rfl) ?_
    exact XR.forget (L2 := [some (.ref 1262), none, some (.int (x2 + 1))]) ⟨rfl, ⟨rfl, trivial⟩⟩ (hK52 (x2 + 1) _ (by simp only [LY_si, LY_sj]; exact L0) hf)
def b_m_begin_52 : Nat → Int32 → XH → Option (Unit × XH)
  | 0, _, _ => none
  | n + 1, x2, h => s_m_begin_52 (b_m_begin_52 n) x2 h
theorem kb_m_begin_52 {l : Launch} {G : XG} {d : Nat} {n : Nat} {x2 : Int32} {h : XH} {r : Unit × XH} (L0 : LY h) (hf : b_m_begin_52 n x2 h = some r) : XR l G xEX12_begin (d + 1) (52, [some (.ref 1262), none, some (.int x2)], [], h) (fun C => ∃ v, xRet xEX12_begin C v ∧ (C.2.2.2 = r.2 ∧ v = none) ∧ LY r.2) := by
  induction n generalizing x2 h with
  | zero => cases hf
  | succ n ih => exact ks_m_begin_52 (fun x2 h L0 hf => ih (h := h) (x2 := x2) L0 hf) L0 hf
def f_m_begin (a0 : Int32) (h : XH) : Option (Unit × XH) := (if (hi h 1262 67) = (-1) then (Option.bind (f_m_isTable a0 (hsi h 1262 0 0)) fun r6 => (if ¬ r6.1 = 0 then (b_m_begin_52 100000 0 (hsi (hsi r6.2 1262 67 a0) 1262 68 (hi r6.2 1262 57))) else (some ((), (hsi r6.2 1262 0 2))))) else (some ((), (hsi (hsi h 1262 0 0) 1262 0 1))))
set_option maxRecDepth 20000 in
theorem kf_m_begin {l : Launch} {G : XG} {d : Nat} {a0 : Int32} {h : XH} {r : Unit × XH} (L0 : LY h) (hf : f_m_begin a0 h = some r) : XC l G xEX12_begin (d + 1) [.ref 1262, .int a0] h (fun v h2 => (h2 = r.2 ∧ v = none) ∧ LY r.2) := by
  refine XC.virt xvX12_begin (Nat.le_of_ble_eq_true rfl) ?_
  unfold f_m_begin at hf
  refine XR.norm (L3 := [some (.ref 1262), some (.int a0), none]) rfl ?_
  refine XS.go (s_aloadn rfl rfl rfl) ?_
  refine XS.go (s_iconst (v := 0) rfl rfl) ?_
  refine XS.go (s_puti rfl xf12_175 (LY.lt L0 (by decide)) (LY.k1262 L0) (by decide) rfl (Or.inl rfl)) ?_
  refine XS.go (s_aloadn rfl rfl rfl) ?_
  refine XS.go (s_getie rfl xf12_140 (LY.lt (by simp only [LY_si, LY_sj]; exact L0) (by decide)) (LY.k1262 (by simp only [LY_si, LY_sj]; exact L0)) (by decide) rfl (hi_hsi_nk (by decide))) ?_
  refine XS.go (s_iconst (v := (-1)) rfl rfl) ?_
  refine r_icmp_eq (tgt := 21) rfl rfl (fun qc5 => ?_) (fun qc5 => ?_)
  · replace hf := xi_pos hf qc5
    refine XS.go (s_aloadn rfl rfl rfl) ?_
    refine XS.go (s_iloadn rfl rfl rfl) ?_
    replace hf := xb_some hf
    obtain ⟨r6, e7, hf⟩ := hf
    refine r_callv rfl xvX12_isTable xm12_372 (kf_m_isTable (d := d) (by simp only [LY_si, LY_sj]; exact L0) e7) (LY.lt (by simp only [LY_si, LY_sj]; exact L0) (by decide)) (LY.k1262 (by simp only [LY_si, LY_sj]; exact L0)) (by decide) rfl rfl (dl0 (by decide)) (by decide) (Nat.le_of_ble_eq_true rfl) ?_
    rintro _ _ ⟨⟨rfl, rfl⟩, L8⟩
    refine r_if_ne (tgt := 37) rfl rfl (fun qc9 => ?_) (fun qc9 => ?_)
    · replace hf := xi_pos hf qc9
      refine XS.go (s_aloadn rfl rfl rfl) ?_
      refine XS.go (s_iloadn rfl rfl rfl) ?_
      refine XS.go (s_puti rfl xf12_140 (LY.lt L8 (by decide)) (LY.k1262 L8) (by decide) rfl (Or.inl rfl)) ?_
      refine XS.go (s_aloadn rfl rfl rfl) ?_
      refine XS.go (s_aloadn rfl rfl rfl) ?_
      refine XS.go (s_getie rfl xf12_382 (LY.lt (by simp only [LY_si, LY_sj]; exact L8) (by decide)) (LY.k1262 (by simp only [LY_si, LY_sj]; exact L8)) (by decide) rfl (hi_hsi_nk (by decide))) ?_
      refine XS.go (s_puti rfl xf12_426 (LY.lt (by simp only [LY_si, LY_sj]; exact L8) (by decide)) (LY.k1262 (by simp only [LY_si, LY_sj]; exact L8)) (by decide) rfl (Or.inl rfl)) ?_
      refine XS.go (s_iconst (v := 0) rfl rfl) ?_
      refine XS.go (XS.lcl (L3 := [some (.ref 1262), some (.int a0), some (.int 0)]) (s_istoren rfl rfl (Nat.le_of_ble_eq_true rfl)) rfl) ?_
      exact XR.forget (L2 := [some (.ref 1262), none, some (.int 0)]) ⟨rfl, ⟨rfl, trivial⟩⟩ (kb_m_begin_52 (by simp only [LY_si, LY_sj]; exact L8) hf)
    · replace hf := xi_neg hf qc9
      refine XS.go (s_aloadn rfl rfl rfl) ?_
      refine XS.go (s_iconst (v := 2) rfl rfl) ?_
      refine XS.go (s_puti rfl xf12_175 (LY.lt L8 (by decide)) (LY.k1262 L8) (by decide) rfl (Or.inl rfl)) ?_
      refine XS.go (s_goto (tgt := 92) rfl rfl) ?_
      cases hf
      exact XR.retv rfl rfl (fun hret => ⟨_, hret, ⟨rfl, rfl⟩, (by simp only [LY_si, LY_sj]; exact L8)⟩)
  · replace hf := xi_neg hf qc5
    refine XS.go (s_aloadn rfl rfl rfl) ?_
    refine XS.go (s_iconst (v := 1) rfl rfl) ?_
    refine XS.go (s_puti rfl xf12_175 (LY.lt (by simp only [LY_si, LY_sj]; exact L0) (by decide)) (LY.k1262 (by simp only [LY_si, LY_sj]; exact L0)) (by decide) rfl (Or.inl rfl)) ?_
    refine XS.go (s_goto (tgt := 92) rfl rfl) ?_
    cases hf
    exact XR.retv rfl rfl (fun hret => ⟨_, hret, ⟨rfl, rfl⟩, (by simp only [LY_si, LY_sj]; exact L0)⟩)
def b_m_fits_128 (x1 : Int32) (y0 : Int32) (h : XH) : Option (Int32 × XH) := (if y0 = 0 then (some (0, h)) else (if 0 ≤ x1 ∧ x1 < nI 256 then (if 0 ≤ (((8 * (hi h 1287 (Int32.toNatClampNeg x1))) + (Int64.toInt32 (hj h 1298 (Int32.toNatClampNeg 0)))) - 1) ∧ (((8 * (hi h 1287 (Int32.toNatClampNeg x1))) + (Int64.toInt32 (hj h 1298 (Int32.toNatClampNeg 0)))) - 1) < nI 64 then (Option.bind (f_m_isThing (hj h 1298 (Int32.toNatClampNeg 1)) 3 (-1) (hi h 1294 (Int32.toNatClampNeg (((8 * (hi h 1287 (Int32.toNatClampNeg x1))) + (Int64.toInt32 (hj h 1298 (Int32.toNatClampNeg 0)))) - 1))) h) fun r4 => (if r4.1 = 0 then (some (0, r4.2)) else (some (1, r4.2)))) else none) else none))
set_option maxRecDepth 20000 in
theorem kb_m_fits_128 {l : Launch} {G : XG} {d : Nat} {x1 : Int32} {y0 : Int32} {h : XH} {r : Int32 × XH} (L0 : LY h) (hf : b_m_fits_128 x1 y0 h = some r) : XR l G xEX12_fits (d + 3) (128, [some (.ref 1262), some (.int x1), none, none, none], [(.int y0)], h) (fun C => ∃ v, xRet xEX12_fits C v ∧ (C.2.2.2 = r.2 ∧ v = some (.int r.1)) ∧ LY r.2) := by
  unfold b_m_fits_128 at hf
  refine XS.go (XS.lcl (L3 := [some (.ref 1262), some (.int x1), none, none, some (.int y0)]) (s_istore rfl (Nat.le_of_ble_eq_true rfl)) rfl) ?_
  refine XS.go (s_iload rfl rfl) ?_
  refine r_if_eq (tgt := 178) rfl rfl (fun qc1 => ?_) (fun qc1 => ?_)
  · replace hf := xi_pos hf qc1
    refine XS.go (s_iconst (v := 0) rfl rfl) ?_
    cases hf
    exact XR.retz rfl rfl (by decide) (fun hret => ⟨_, hret, ⟨rfl, rfl⟩, L0⟩)
  · replace hf := xi_neg hf qc1
    refine XS.go (s_aloadn rfl rfl rfl) ?_
    refine XS.go (s_aloadn rfl rfl rfl) ?_
    refine XS.go (s_getr rfl xf12_116 (LY.lt L0 (by decide)) (LY.k1262 L0) (by decide) rfl (LY.r1262_54 L0)) ?_
    refine XS.go (s_iconst (v := 1) rfl rfl) ?_
    refine XS.go (s_lalde rfl (LY.lt L0 (by decide)) (LY.k1298 L0) (inN (k := 1) (LY.n1298 L0) rfl (by decide) (by decide)) rfl) ?_
    refine XS.go (s_iconst (v := 3) rfl rfl) ?_
    refine XS.go (s_iconst (v := (-1)) rfl rfl) ?_
    refine XS.go (s_aloadn rfl rfl rfl) ?_
    refine XS.go (s_getr rfl xf12_104 (LY.lt L0 (by decide)) (LY.k1262 L0) (by decide) rfl (LY.r1262_44 L0)) ?_
    refine XS.go (s_bipush (v := 8) rfl rfl) ?_
    refine XS.go (s_aloadn rfl rfl rfl) ?_
    refine XS.go (s_getr rfl xf12_82 (LY.lt L0 (by decide)) (LY.k1262 L0) (by decide) rfl (LY.r1262_36 L0)) ?_
    refine XS.go (s_iloadn rfl rfl rfl) ?_
    replace hf := xi_none hf
    obtain ⟨qk2, hf⟩ := hf
    refine XS.go (s_ialde rfl (LY.lt L0 (by decide)) (LY.k1287 L0) (inLit (LY.n1287 L0) qk2.1 qk2.2 (by decide)) rfl) ?_
    refine XS.go (s_imul rfl) ?_
    refine XS.go (s_aloadn rfl rfl rfl) ?_
    refine XS.go (s_getr rfl xf12_116 (LY.lt L0 (by decide)) (LY.k1262 L0) (by decide) rfl (LY.r1262_54 L0)) ?_
    refine XS.go (s_iconst (v := 0) rfl rfl) ?_
    refine XS.go (s_lalde rfl (LY.lt L0 (by decide)) (LY.k1298 L0) (inN (k := 0) (LY.n1298 L0) rfl (by decide) (by decide)) rfl) ?_
    refine XS.go (s_l2i rfl) ?_
    refine XS.go (s_iadd rfl) ?_
    refine XS.go (s_iconst (v := 1) rfl rfl) ?_
    refine XS.go (s_isub rfl) ?_
    replace hf := xi_none hf
    obtain ⟨qk3, hf⟩ := hf
    refine XS.go (s_ialde rfl (LY.lt L0 (by decide)) (LY.k1294 L0) (inLit (LY.n1294 L0) qk3.1 qk3.2 (by decide)) rfl) ?_
    replace hf := xb_some hf
    obtain ⟨r4, e5, hf⟩ := hf
    refine r_callv rfl xvX12_isThing xm12_416 (kf_m_isThing (d := d) L0 e5) (LY.lt L0 (by decide)) (LY.k1262 L0) (by decide) rfl rfl (dl0 (by decide)) (by decide) (Nat.le_of_ble_eq_true rfl) ?_
    rintro _ _ ⟨⟨rfl, rfl⟩, L6⟩
    refine r_if_eq (tgt := 178) rfl rfl (fun qc7 => ?_) (fun qc7 => ?_)
    · replace hf := xi_pos hf qc7
      refine XS.go (s_iconst (v := 0) rfl rfl) ?_
      cases hf
      exact XR.retz rfl rfl (by decide) (fun hret => ⟨_, hret, ⟨rfl, rfl⟩, L6⟩)
    · replace hf := xi_neg hf qc7
      refine XS.go (s_iconst (v := 1) rfl rfl) ?_
      refine XS.go (s_goto (tgt := 179) rfl rfl) ?_
      cases hf
      exact XR.retz rfl rfl (by decide) (fun hret => ⟨_, hret, ⟨rfl, rfl⟩, L6⟩)
def b_m_fits_127 (x1 : Int32) (h : XH) : Option (Int32 × XH) := (b_m_fits_128 x1 0 h)
set_option maxRecDepth 20000 in
theorem kb_m_fits_127 {l : Launch} {G : XG} {d : Nat} {x1 : Int32} {h : XH} {r : Int32 × XH} (L0 : LY h) (hf : b_m_fits_127 x1 h = some r) : XR l G xEX12_fits (d + 3) (127, [some (.ref 1262), some (.int x1), none, none, none], [], h) (fun C => ∃ v, xRet xEX12_fits C v ∧ (C.2.2.2 = r.2 ∧ v = some (.int r.1)) ∧ LY r.2) := by
  unfold b_m_fits_127 at hf
  refine XS.go (s_iconst (v := 0) rfl rfl) ?_
  exact XR.forget (L2 := [some (.ref 1262), some (.int x1), none, none, none]) ⟨rfl, ⟨rfl, trivial⟩⟩ (kb_m_fits_128 L0 hf)
def f_m_fits (a0 : Int32) (a1 : Int32) (h : XH) : Option (Int32 × XH) := (if 0 ≤ a0 ∧ a0 < nI 256 then (if ¬ (hi h 1286 (Int32.toNatClampNeg a0)) = 0 then (if ¬ (hi h 1286 (Int32.toNatClampNeg a0)) = 2 then (if ¬ (hi h 1286 (Int32.toNatClampNeg a0)) = 4 then (if ¬ a1 = 1 then (some (0, h)) else (Option.bind (f_m_isThing (hj h 1298 (Int32.toNatClampNeg 0)) (hi h 1286 (Int32.toNatClampNeg a0)) (hi h 1288 (Int32.toNatClampNeg a0)) (hi h 1287 (Int32.toNatClampNeg a0)) h) fun r13 => (if r13.1 = 0 then (some (0, r13.2)) else (some (1, r13.2))))) else (if ¬ a1 = 2 then (b_m_fits_127 a0 h) else (if (lg_cmp (hj h 1298 (Int32.toNatClampNeg 0)) (1 : Int64)) < 0 then (b_m_fits_127 a0 h) else (if 0 ≤ (hi h 1287 (Int32.toNatClampNeg a0)) ∧ (hi h 1287 (Int32.toNatClampNeg a0)) < nI 8 then (if 0 < (lg_cmp (hj h 1298 (Int32.toNatClampNeg 0)) (Int32.toInt64 (hi h 1292 (Int32.toNatClampNeg (hi h 1287 (Int32.toNatClampNeg a0)))))) then (b_m_fits_127 a0 h) else (b_m_fits_128 a0 1 h)) else none)))) else (if 0 ≤ (hi h 1287 (Int32.toNatClampNeg a0)) ∧ (hi h 1287 (Int32.toNatClampNeg a0)) < nI 12 then (if ¬ a1 = (hi h 1280 (Int32.toNatClampNeg (hi h 1287 (Int32.toNatClampNeg a0)))) then (some (0, h)) else (Option.bind (f_m_areOfStruct (hi h 1287 (Int32.toNatClampNeg a0)) 0 h) fun r23 => (if r23.1 = 0 then (some (0, r23.2)) else (some (1, r23.2))))) else none)) else (if ¬ a1 = 1 then (some (0, h)) else (Option.bind (f_m_isValue (hi h 1287 (Int32.toNatClampNeg a0)) (hj h 1298 (Int32.toNatClampNeg 0)) h) fun r28 => (if r28.1 = 0 then (some (0, r28.2)) else (some (1, r28.2)))))) else none)
set_option maxRecDepth 20000 in
theorem kf_m_fits {l : Launch} {G : XG} {d : Nat} {a0 : Int32} {a1 : Int32} {h : XH} {r : Int32 × XH} (L0 : LY h) (hf : f_m_fits a0 a1 h = some r) : XC l G xEX12_fits (d + 3) [.ref 1262, .int a0, .int a1] h (fun v h2 => (h2 = r.2 ∧ v = some (.int r.1)) ∧ LY r.2) := by
  refine XC.virt xvX12_fits (Nat.le_of_ble_eq_true rfl) ?_
  unfold f_m_fits at hf
  refine XR.norm (L3 := [some (.ref 1262), some (.int a0), some (.int a1), none, none]) rfl ?_
  refine XS.go (s_aloadn rfl rfl rfl) ?_
  refine XS.go (s_getr rfl xf12_79 (LY.lt L0 (by decide)) (LY.k1262 L0) (by decide) rfl (LY.r1262_35 L0)) ?_
  refine XS.go (s_iloadn rfl rfl rfl) ?_
  replace hf := xi_none hf
  obtain ⟨qk8, hf⟩ := hf
  refine XS.go (s_ialde rfl (LY.lt L0 (by decide)) (LY.k1286 L0) (inLit (LY.n1286 L0) qk8.1 qk8.2 (by decide)) rfl) ?_
  refine XS.go (XS.lcl (L3 := [some (.ref 1262), some (.int a0), some (.int a1), some (.int (hi h 1286 (Int32.toNatClampNeg a0))), none]) (s_istoren rfl rfl (Nat.le_of_ble_eq_true rfl)) rfl) ?_
  refine XS.go (s_iloadn rfl rfl rfl) ?_
  refine r_if_ne (tgt := 40) rfl rfl (fun qc9 => ?_) (fun qc9 => ?_)
  · replace hf := xi_pos hf qc9
    refine XS.go (s_iloadn rfl rfl rfl) ?_
    refine XS.go (s_iconst (v := 2) rfl rfl) ?_
    refine r_icmp_ne (tgt := 80) rfl rfl (fun qc10 => ?_) (fun qc10 => ?_)
    · replace hf := xi_pos hf qc10
      refine XS.go (s_iloadn rfl rfl rfl) ?_
      refine XS.go (s_iconst (v := 4) rfl rfl) ?_
      refine r_icmp_ne (tgt := 180) rfl rfl (fun qc11 => ?_) (fun qc11 => ?_)
      · replace hf := xi_pos hf qc11
        refine XS.go (s_iloadn rfl rfl rfl) ?_
        refine XS.go (s_iconst (v := 1) rfl rfl) ?_
        refine r_icmp_ne (tgt := 215) rfl rfl (fun qc12 => ?_) (fun qc12 => ?_)
        · replace hf := xi_pos hf qc12
          refine XS.go (s_iconst (v := 0) rfl rfl) ?_
          cases hf
          exact XR.retz rfl rfl (by decide) (fun hret => ⟨_, hret, ⟨rfl, rfl⟩, L0⟩)
        · replace hf := xi_neg hf qc12
          refine XS.go (s_aloadn rfl rfl rfl) ?_
          refine XS.go (s_aloadn rfl rfl rfl) ?_
          refine XS.go (s_getr rfl xf12_116 (LY.lt L0 (by decide)) (LY.k1262 L0) (by decide) rfl (LY.r1262_54 L0)) ?_
          refine XS.go (s_iconst (v := 0) rfl rfl) ?_
          refine XS.go (s_lalde rfl (LY.lt L0 (by decide)) (LY.k1298 L0) (inN (k := 0) (LY.n1298 L0) rfl (by decide) (by decide)) rfl) ?_
          refine XS.go (s_iloadn rfl rfl rfl) ?_
          refine XS.go (s_aloadn rfl rfl rfl) ?_
          refine XS.go (s_getr rfl xf12_85 (LY.lt L0 (by decide)) (LY.k1262 L0) (by decide) rfl (LY.r1262_37 L0)) ?_
          refine XS.go (s_iloadn rfl rfl rfl) ?_
          refine XS.go (s_ialde rfl (LY.lt L0 (by decide)) (LY.k1288 L0) (inLit (LY.n1288 L0) qk8.1 qk8.2 (by decide)) rfl) ?_
          refine XS.go (s_aloadn rfl rfl rfl) ?_
          refine XS.go (s_getr rfl xf12_82 (LY.lt L0 (by decide)) (LY.k1262 L0) (by decide) rfl (LY.r1262_36 L0)) ?_
          refine XS.go (s_iloadn rfl rfl rfl) ?_
          refine XS.go (s_ialde rfl (LY.lt L0 (by decide)) (LY.k1287 L0) (inLit (LY.n1287 L0) qk8.1 qk8.2 (by decide)) rfl) ?_
          replace hf := xb_some hf
          obtain ⟨r13, e14, hf⟩ := hf
          refine r_callv rfl xvX12_isThing xm12_416 (kf_m_isThing (d := d) L0 e14) (LY.lt L0 (by decide)) (LY.k1262 L0) (by decide) rfl rfl (dl0 (by decide)) (by decide) (Nat.le_of_ble_eq_true rfl) ?_
          rintro _ _ ⟨⟨rfl, rfl⟩, L15⟩
          refine r_if_eq (tgt := 215) rfl rfl (fun qc16 => ?_) (fun qc16 => ?_)
          · replace hf := xi_pos hf qc16
            refine XS.go (s_iconst (v := 0) rfl rfl) ?_
            cases hf
            exact XR.retz rfl rfl (by decide) (fun hret => ⟨_, hret, ⟨rfl, rfl⟩, L15⟩)
          · replace hf := xi_neg hf qc16
            refine XS.go (s_iconst (v := 1) rfl rfl) ?_
            refine XS.go (s_goto (tgt := 216) rfl rfl) ?_
            cases hf
            exact XR.retz rfl rfl (by decide) (fun hret => ⟨_, hret, ⟨rfl, rfl⟩, L15⟩)
      · replace hf := xi_neg hf qc11
        refine XS.go (s_iloadn rfl rfl rfl) ?_
        refine XS.go (s_iconst (v := 2) rfl rfl) ?_
        refine r_icmp_ne (tgt := 127) rfl rfl (fun qc17 => ?_) (fun qc17 => ?_)
        · replace hf := xi_pos hf qc17
          exact XR.forget (L2 := [some (.ref 1262), some (.int a0), none, none, none]) ⟨rfl, ⟨rfl, trivial⟩⟩ (kb_m_fits_127 L0 hf)
        · replace hf := xi_neg hf qc17
          refine XS.go (s_aloadn rfl rfl rfl) ?_
          refine XS.go (s_getr rfl xf12_116 (LY.lt L0 (by decide)) (LY.k1262 L0) (by decide) rfl (LY.r1262_54 L0)) ?_
          refine XS.go (s_iconst (v := 0) rfl rfl) ?_
          refine XS.go (s_lalde rfl (LY.lt L0 (by decide)) (LY.k1298 L0) (inN (k := 0) (LY.n1298 L0) rfl (by decide) (by decide)) rfl) ?_
          refine XS.go (s_lconst (v := 1) rfl rfl) ?_
          refine XS.go (s_lcmp rfl) ?_
          refine r_if_lt (tgt := 127) rfl rfl (fun qc18 => ?_) (fun qc18 => ?_)
          · replace hf := xi_pos hf qc18
            exact XR.forget (L2 := [some (.ref 1262), some (.int a0), none, none, none]) ⟨rfl, ⟨rfl, trivial⟩⟩ (kb_m_fits_127 L0 hf)
          · replace hf := xi_neg hf qc18
            refine XS.go (s_aloadn rfl rfl rfl) ?_
            refine XS.go (s_getr rfl xf12_116 (LY.lt L0 (by decide)) (LY.k1262 L0) (by decide) rfl (LY.r1262_54 L0)) ?_
            refine XS.go (s_iconst (v := 0) rfl rfl) ?_
            refine XS.go (s_lalde rfl (LY.lt L0 (by decide)) (LY.k1298 L0) (inN (k := 0) (LY.n1298 L0) rfl (by decide) (by decide)) rfl) ?_
            refine XS.go (s_aloadn rfl rfl rfl) ?_
            refine XS.go (s_getr rfl xf12_98 (LY.lt L0 (by decide)) (LY.k1262 L0) (by decide) rfl (LY.r1262_42 L0)) ?_
            refine XS.go (s_aloadn rfl rfl rfl) ?_
            refine XS.go (s_getr rfl xf12_82 (LY.lt L0 (by decide)) (LY.k1262 L0) (by decide) rfl (LY.r1262_36 L0)) ?_
            refine XS.go (s_iloadn rfl rfl rfl) ?_
            refine XS.go (s_ialde rfl (LY.lt L0 (by decide)) (LY.k1287 L0) (inLit (LY.n1287 L0) qk8.1 qk8.2 (by decide)) rfl) ?_
            replace hf := xi_none hf
            obtain ⟨qk19, hf⟩ := hf
            refine XS.go (s_ialde rfl (LY.lt L0 (by decide)) (LY.k1292 L0) (inLit (LY.n1292 L0) qk19.1 qk19.2 (by decide)) rfl) ?_
            refine XS.go (s_i2l rfl) ?_
            refine XS.go (s_lcmp rfl) ?_
            refine r_if_gt (tgt := 127) rfl rfl (fun qc20 => ?_) (fun qc20 => ?_)
            · replace hf := xi_pos hf qc20
              exact XR.forget (L2 := [some (.ref 1262), some (.int a0), none, none, none]) ⟨rfl, ⟨rfl, trivial⟩⟩ (kb_m_fits_127 L0 hf)
            · replace hf := xi_neg hf qc20
              refine XS.go (s_iconst (v := 1) rfl rfl) ?_
              refine XS.go (s_goto (tgt := 128) rfl rfl) ?_
              exact XR.forget (L2 := [some (.ref 1262), some (.int a0), none, none, none]) ⟨rfl, ⟨rfl, trivial⟩⟩ (kb_m_fits_128 L0 hf)
    · replace hf := xi_neg hf qc10
      refine XS.go (s_iloadn rfl rfl rfl) ?_
      refine XS.go (s_aloadn rfl rfl rfl) ?_
      refine XS.go (s_getr rfl xf12_61 (LY.lt L0 (by decide)) (LY.k1262 L0) (by decide) rfl (LY.r1262_28 L0)) ?_
      refine XS.go (s_aloadn rfl rfl rfl) ?_
      refine XS.go (s_getr rfl xf12_82 (LY.lt L0 (by decide)) (LY.k1262 L0) (by decide) rfl (LY.r1262_36 L0)) ?_
      refine XS.go (s_iloadn rfl rfl rfl) ?_
      refine XS.go (s_ialde rfl (LY.lt L0 (by decide)) (LY.k1287 L0) (inLit (LY.n1287 L0) qk8.1 qk8.2 (by decide)) rfl) ?_
      replace hf := xi_none hf
      obtain ⟨qk21, hf⟩ := hf
      refine XS.go (s_ialde rfl (LY.lt L0 (by decide)) (LY.k1280 L0) (inLit (LY.n1280 L0) qk21.1 qk21.2 (by decide)) rfl) ?_
      refine r_icmp_ne (tgt := 78) rfl rfl (fun qc22 => ?_) (fun qc22 => ?_)
      · replace hf := xi_pos hf qc22
        refine XS.go (s_iconst (v := 0) rfl rfl) ?_
        cases hf
        exact XR.retz rfl rfl (by decide) (fun hret => ⟨_, hret, ⟨rfl, rfl⟩, L0⟩)
      · replace hf := xi_neg hf qc22
        refine XS.go (s_aloadn rfl rfl rfl) ?_
        refine XS.go (s_aloadn rfl rfl rfl) ?_
        refine XS.go (s_getr rfl xf12_82 (LY.lt L0 (by decide)) (LY.k1262 L0) (by decide) rfl (LY.r1262_36 L0)) ?_
        refine XS.go (s_iloadn rfl rfl rfl) ?_
        refine XS.go (s_ialde rfl (LY.lt L0 (by decide)) (LY.k1287 L0) (inLit (LY.n1287 L0) qk8.1 qk8.2 (by decide)) rfl) ?_
        refine XS.go (s_iconst (v := 0) rfl rfl) ?_
        replace hf := xb_some hf
        obtain ⟨r23, e24, hf⟩ := hf
        refine r_callv rfl xvX12_areOfStruct xm12_413 (kf_m_areOfStruct (d := d) L0 e24) (LY.lt L0 (by decide)) (LY.k1262 L0) (by decide) rfl rfl (dl (by decide)) (by decide) (Nat.le_of_ble_eq_true rfl) ?_
        rintro _ _ ⟨⟨rfl, rfl⟩, L25⟩
        refine r_if_eq (tgt := 78) rfl rfl (fun qc26 => ?_) (fun qc26 => ?_)
        · replace hf := xi_pos hf qc26
          refine XS.go (s_iconst (v := 0) rfl rfl) ?_
          cases hf
          exact XR.retz rfl rfl (by decide) (fun hret => ⟨_, hret, ⟨rfl, rfl⟩, L25⟩)
        · replace hf := xi_neg hf qc26
          refine XS.go (s_iconst (v := 1) rfl rfl) ?_
          refine XS.go (s_goto (tgt := 79) rfl rfl) ?_
          cases hf
          exact XR.retz rfl rfl (by decide) (fun hret => ⟨_, hret, ⟨rfl, rfl⟩, L25⟩)
  · replace hf := xi_neg hf qc9
    refine XS.go (s_iloadn rfl rfl rfl) ?_
    refine XS.go (s_iconst (v := 1) rfl rfl) ?_
    refine r_icmp_ne (tgt := 38) rfl rfl (fun qc27 => ?_) (fun qc27 => ?_)
    · replace hf := xi_pos hf qc27
      refine XS.go (s_iconst (v := 0) rfl rfl) ?_
      cases hf
      exact XR.retz rfl rfl (by decide) (fun hret => ⟨_, hret, ⟨rfl, rfl⟩, L0⟩)
    · replace hf := xi_neg hf qc27
      refine XS.go (s_aloadn rfl rfl rfl) ?_
      refine XS.go (s_getr rfl xf12_82 (LY.lt L0 (by decide)) (LY.k1262 L0) (by decide) rfl (LY.r1262_36 L0)) ?_
      refine XS.go (s_iloadn rfl rfl rfl) ?_
      refine XS.go (s_ialde rfl (LY.lt L0 (by decide)) (LY.k1287 L0) (inLit (LY.n1287 L0) qk8.1 qk8.2 (by decide)) rfl) ?_
      refine XS.go (s_aloadn rfl rfl rfl) ?_
      refine XS.go (s_getr rfl xf12_116 (LY.lt L0 (by decide)) (LY.k1262 L0) (by decide) rfl (LY.r1262_54 L0)) ?_
      refine XS.go (s_iconst (v := 0) rfl rfl) ?_
      refine XS.go (s_lalde rfl (LY.lt L0 (by decide)) (LY.k1298 L0) (inN (k := 0) (LY.n1298 L0) rfl (by decide) (by decide)) rfl) ?_
      replace hf := xb_some hf
      obtain ⟨r28, e29, hf⟩ := hf
      refine r_calls rfl xsX12_isValue xm12_334 (kf_m_isValue (d := d) L0 e29) rfl rfl (dl (by decide)) (by decide) (Nat.le_of_ble_eq_true rfl) ?_
      rintro _ _ ⟨⟨rfl, rfl⟩, L30⟩
      refine r_if_eq (tgt := 38) rfl rfl (fun qc31 => ?_) (fun qc31 => ?_)
      · replace hf := xi_pos hf qc31
        refine XS.go (s_iconst (v := 0) rfl rfl) ?_
        cases hf
        exact XR.retz rfl rfl (by decide) (fun hret => ⟨_, hret, ⟨rfl, rfl⟩, L30⟩)
      · replace hf := xi_neg hf qc31
        refine XS.go (s_iconst (v := 1) rfl rfl) ?_
        refine XS.go (s_goto (tgt := 39) rfl rfl) ?_
        cases hf
        exact XR.retz rfl rfl (by decide) (fun hret => ⟨_, hret, ⟨rfl, rfl⟩, L30⟩)
def b_m_set_356 (x8 : Int32) (h : XH) : Option (Int32 × XH) := (if 0 ≤ x8 ∧ x8 < nI 32 then (some (1, (hsi h 1307 (Int32.toNatClampNeg x8) (hi h 1262 57)))) else none)
set_option maxRecDepth 20000 in
theorem kb_m_set_356 {l : Launch} {G : XG} {d : Nat} {x8 : Int32} {h : XH} {r : Int32 × XH} (L0 : LY h) (hf : b_m_set_356 x8 h = some r) : XR l G xEX12_set (d + 4) (356, [some (.ref 1262), none, none, none, none, none, none, none, some (.int x8)], [], h) (fun C => ∃ v, xRet xEX12_set C v ∧ (C.2.2.2 = r.2 ∧ v = some (.int r.1)) ∧ LY r.2) := by
  unfold b_m_set_356 at hf
  refine XS.go (s_aloadn rfl rfl rfl) ?_
  refine XS.go (s_getr rfl xf12_148 (LY.lt L0 (by decide)) (LY.k1262 L0) (by decide) rfl (LY.r1262_70 L0)) ?_
  refine XS.go (s_iload rfl rfl) ?_
  refine XS.go (s_aloadn rfl rfl rfl) ?_
  refine XS.go (s_getie rfl xf12_382 (LY.lt L0 (by decide)) (LY.k1262 L0) (by decide) rfl rfl) ?_
  replace hf := xi_none hf
  obtain ⟨qk1, hf⟩ := hf
  refine XS.go (s_iast rfl (LY.lt L0 (by decide)) (LY.k1307 L0) (inLit (LY.n1307 L0) qk1.1 qk1.2 (by decide))) ?_
  refine XS.go (s_iconst (v := 1) rfl rfl) ?_
  cases hf
  exact XR.retz rfl rfl (by decide) (fun hret => ⟨_, hret, ⟨rfl, rfl⟩, (by simp only [LY_si, LY_sj]; exact L0)⟩)
def b_m_set_326 (x4 : Int32) (x8 : Int32) (h : XH) : Option (Int32 × XH) := (if ¬ x4 = 4 then (b_m_set_356 x8 h) else (if 0 ≤ (x8 + 1) ∧ (x8 + 1) < nI 32 then (Option.bind (f_m_ahead (hj h 1298 (Int32.toNatClampNeg 0)) 1 (hsi h 1307 (Int32.toNatClampNeg (x8 + 1)) (hi h 1262 57))) fun r4 => (b_m_set_356 x8 r4.2)) else none))
set_option maxRecDepth 20000 in
theorem kb_m_set_326 {l : Launch} {G : XG} {d : Nat} {x4 : Int32} {x8 : Int32} {h : XH} {r : Int32 × XH} (L0 : LY h) (hf : b_m_set_326 x4 x8 h = some r) : XR l G xEX12_set (d + 4) (326, [some (.ref 1262), none, none, none, some (.int x4), none, none, none, some (.int x8)], [], h) (fun C => ∃ v, xRet xEX12_set C v ∧ (C.2.2.2 = r.2 ∧ v = some (.int r.1)) ∧ LY r.2) := by
  unfold b_m_set_326 at hf
  refine XS.go (s_iload rfl rfl) ?_
  refine XS.go (s_iconst (v := 4) rfl rfl) ?_
  refine r_icmp_ne (tgt := 356) rfl rfl (fun qc2 => ?_) (fun qc2 => ?_)
  · replace hf := xi_pos hf qc2
    exact XR.forget (L2 := [some (.ref 1262), none, none, none, none, none, none, none, some (.int x8)]) ⟨rfl, ⟨rfl, trivial⟩⟩ (kb_m_set_356 L0 hf)
  · replace hf := xi_neg hf qc2
    refine XS.go (s_aloadn rfl rfl rfl) ?_
    refine XS.go (s_getr rfl xf12_148 (LY.lt L0 (by decide)) (LY.k1262 L0) (by decide) rfl (LY.r1262_70 L0)) ?_
    refine XS.go (s_iload rfl rfl) ?_
    refine XS.go (s_iconst (v := 1) rfl rfl) ?_
    refine XS.go (s_iadd rfl) ?_
    refine XS.go (s_aloadn rfl rfl rfl) ?_
    refine XS.go (s_getie rfl xf12_382 (LY.lt L0 (by decide)) (LY.k1262 L0) (by decide) rfl rfl) ?_
    replace hf := xi_none hf
    obtain ⟨qk3, hf⟩ := hf
    refine XS.go (s_iast rfl (LY.lt L0 (by decide)) (LY.k1307 L0) (inLit (LY.n1307 L0) qk3.1 qk3.2 (by decide))) ?_
    refine XS.go (s_aloadn rfl rfl rfl) ?_
    refine XS.go (s_aloadn rfl rfl rfl) ?_
    refine XS.go (s_getr rfl xf12_116 (LY.lt (by simp only [LY_si, LY_sj]; exact L0) (by decide)) (LY.k1262 (by simp only [LY_si, LY_sj]; exact L0)) (by decide) rfl (LY.r1262_54 (by simp only [LY_si, LY_sj]; exact L0))) ?_
    refine XS.go (s_iconst (v := 0) rfl rfl) ?_
    refine XS.go (s_lalde rfl (LY.lt (by simp only [LY_si, LY_sj]; exact L0) (by decide)) (LY.k1298 (by simp only [LY_si, LY_sj]; exact L0)) (inN (k := 0) (LY.n1298 (by simp only [LY_si, LY_sj]; exact L0)) rfl (by decide) (by decide)) (congrFun hj_hsi _)) ?_
    refine XS.go (s_iconst (v := 1) rfl rfl) ?_
    replace hf := xb_some hf
    obtain ⟨r4, e5, hf⟩ := hf
    refine r_callv rfl xvX12_ahead xm12_396 (kf_m_ahead (d := d) (by simp only [LY_si, LY_sj]; exact L0) e5) (LY.lt (by simp only [LY_si, LY_sj]; exact L0) (by decide)) (LY.k1262 (by simp only [LY_si, LY_sj]; exact L0)) (by decide) rfl rfl (dl0 (by decide)) (by decide) (Nat.le_of_ble_eq_true rfl) ?_
    rintro _ _ ⟨⟨rfl, rfl⟩, L6⟩
    exact XR.forget (L2 := [some (.ref 1262), none, none, none, none, none, none, none, some (.int x8)]) ⟨rfl, ⟨rfl, trivial⟩⟩ (kb_m_set_356 L6 hf)
def b_m_set_321 (x4 : Int32) (x8 : Int32) (y2 : Int32) (h : XH) : Option (Int32 × XH) := (if 0 ≤ y2 ∧ y2 < nI 600 then (Option.bind (f_m_reference (Int64.toInt32 (hj h 1298 (Int32.toNatClampNeg y2))) h) fun r8 => (b_m_set_326 x4 x8 r8.2)) else none)
set_option maxRecDepth 20000 in
theorem kb_m_set_321 {l : Launch} {G : XG} {d : Nat} {x4 : Int32} {x8 : Int32} {y2 : Int32} {h : XH} {r : Int32 × XH} (L0 : LY h) (hf : b_m_set_321 x4 x8 y2 h = some r) : XR l G xEX12_set (d + 4) (321, [some (.ref 1262), none, none, none, some (.int x4), none, none, none, some (.int x8)], [(.int y2), (.ref 1298), (.ref 1262)], h) (fun C => ∃ v, xRet xEX12_set C v ∧ (C.2.2.2 = r.2 ∧ v = some (.int r.1)) ∧ LY r.2) := by
  unfold b_m_set_321 at hf
  replace hf := xi_none hf
  obtain ⟨qk7, hf⟩ := hf
  refine XS.go (s_lalde rfl (LY.lt L0 (by decide)) (LY.k1298 L0) (inLit (LY.n1298 L0) qk7.1 qk7.2 (by decide)) rfl) ?_
  refine XS.go (s_l2i rfl) ?_
  replace hf := xb_some hf
  obtain ⟨r8, e9, hf⟩ := hf
  refine r_callv rfl xvX12_reference xm12_423 (kf_m_reference (d := d) L0 e9) (LY.lt L0 (by decide)) (LY.k1262 L0) (by decide) rfl rfl (dl (by decide)) (by decide) (Nat.le_of_ble_eq_true rfl) ?_
  rintro _ _ ⟨⟨rfl, rfl⟩, L10⟩
  exact XR.forget (L2 := [some (.ref 1262), none, none, none, some (.int x4), none, none, none, some (.int x8)]) ⟨rfl, ⟨rfl, ⟨rfl, trivial⟩⟩⟩ (kb_m_set_326 L10 hf)
def b_m_set_224 (x1 : Int32) (x3 : Int32) (x4 : Int32) (x5 : Int32) (x6 : Int32) (x7 : Int32) (y0 : Int32) (y1 : Int32) (h : XH) : Option (Int32 × XH) := (if (y0 + y1) ≤ 4000 then (if 0 ≤ x1 ∧ x1 < nI 16 then (Option.bind (f_m_aligned x6 (hsi h 1306 (Int32.toNatClampNeg x1) (vp_nar .boolean 1))) fun r13 => (Option.bind (f_m_zeros x7 r13.2) fun r16 => (if 0 ≤ x3 ∧ x3 < nI 256 then (if ¬ x4 = 0 then (if ¬ x4 = 2 then (if ¬ x4 = 4 then (b_m_set_321 x4 (hi r16.2 1289 (Int32.toNatClampNeg x3)) 0 r16.2) else (b_m_set_321 x4 (hi r16.2 1289 (Int32.toNatClampNeg x3)) 1 r16.2)) else (Option.bind (f_m_putStruct (hi r16.2 1287 (Int32.toNatClampNeg x3)) 0 r16.2) fun r23 => (b_m_set_326 x4 (hi r16.2 1289 (Int32.toNatClampNeg x3)) r23.2))) else (Option.bind (f_m_ahead (hj r16.2 1298 (Int32.toNatClampNeg 0)) x5 r16.2) fun r26 => (b_m_set_326 x4 (hi r16.2 1289 (Int32.toNatClampNeg x3)) r26.2))) else none))) else none) else (some (0, (hsi h 1262 0 4))))
set_option maxRecDepth 20000 in
theorem kb_m_set_224 {l : Launch} {G : XG} {d : Nat} {x1 : Int32} {x3 : Int32} {x4 : Int32} {x5 : Int32} {x6 : Int32} {x7 : Int32} {y0 : Int32} {y1 : Int32} {h : XH} {r : Int32 × XH} (L0 : LY h) (hf : b_m_set_224 x1 x3 x4 x5 x6 x7 y0 y1 h = some r) : XR l G xEX12_set (d + 4) (224, [some (.ref 1262), some (.int x1), none, some (.int x3), some (.int x4), some (.int x5), some (.int x6), some (.int x7), none], [(.int y1), (.int y0)], h) (fun C => ∃ v, xRet xEX12_set C v ∧ (C.2.2.2 = r.2 ∧ v = some (.int r.1)) ∧ LY r.2) := by
  unfold b_m_set_224 at hf
  refine XS.go (s_iadd rfl) ?_
  refine XS.go (s_sipush (v := 4000) rfl rfl) ?_
  refine r_icmp_le (tgt := 238) rfl rfl (fun qc11 => ?_) (fun qc11 => ?_)
  · replace hf := xi_pos hf qc11
    refine XS.go (s_aloadn rfl rfl rfl) ?_
    refine XS.go (s_getr rfl xf12_144 (LY.lt L0 (by decide)) (LY.k1262 L0) (by decide) rfl (LY.r1262_69 L0)) ?_
    refine XS.go (s_iloadn rfl rfl rfl) ?_
    refine XS.go (s_iconst (v := 1) rfl rfl) ?_
    replace hf := xi_none hf
    obtain ⟨qk12, hf⟩ := hf
    refine XS.go (s_zast rfl (LY.lt L0 (by decide)) (LY.k1306 L0) (inLit (LY.n1306 L0) qk12.1 qk12.2 (by decide))) ?_
    refine XS.go (s_aloadn rfl rfl rfl) ?_
    refine XS.go (s_iload rfl rfl) ?_
    replace hf := xb_some hf
    obtain ⟨r13, e14, hf⟩ := hf
    refine r_callv rfl xvX12_aligned xm12_404 (kf_m_aligned (d := d) (by simp only [LY_si, LY_sj]; exact L0) e14) (LY.lt (by simp only [LY_si, LY_sj]; exact L0) (by decide)) (LY.k1262 (by simp only [LY_si, LY_sj]; exact L0)) (by decide) rfl rfl (dl0 (by decide)) (by decide) (Nat.le_of_ble_eq_true rfl) ?_
    rintro _ _ ⟨⟨rfl, rfl⟩, L15⟩
    refine XS.go (s_aloadn rfl rfl rfl) ?_
    refine XS.go (s_iload rfl rfl) ?_
    replace hf := xb_some hf
    obtain ⟨r16, e17, hf⟩ := hf
    refine r_callv rfl xvX12_zeros xm12_407 (kf_m_zeros (d := d) L15 e17) (LY.lt L15 (by decide)) (LY.k1262 L15) (by decide) rfl rfl (dl0 (by decide)) (by decide) (Nat.le_of_ble_eq_true rfl) ?_
    rintro _ _ ⟨⟨rfl, rfl⟩, L18⟩
    refine XS.go (s_aloadn rfl rfl rfl) ?_
    refine XS.go (s_getr rfl xf12_88 (LY.lt L18 (by decide)) (LY.k1262 L18) (by decide) rfl (LY.r1262_38 L18)) ?_
    refine XS.go (s_iloadn rfl rfl rfl) ?_
    replace hf := xi_none hf
    obtain ⟨qk19, hf⟩ := hf
    refine XS.go (s_ialde rfl (LY.lt L18 (by decide)) (LY.k1289 L18) (inLit (LY.n1289 L18) qk19.1 qk19.2 (by decide)) rfl) ?_
    refine XS.go (XS.lcl (L3 := [some (.ref 1262), some (.int x1), none, some (.int x3), some (.int x4), some (.int x5), some (.int x6), some (.int x7), some (.int (hi r16.2 1289 (Int32.toNatClampNeg x3)))]) (s_istore rfl (Nat.le_of_ble_eq_true rfl)) rfl) ?_
    refine XS.go (s_iload rfl rfl) ?_
    refine r_if_ne (tgt := 285) rfl rfl (fun qc20 => ?_) (fun qc20 => ?_)
    · replace hf := xi_pos hf qc20
      refine XS.go (s_iload rfl rfl) ?_
      refine XS.go (s_iconst (v := 2) rfl rfl) ?_
      refine r_icmp_ne (tgt := 305) rfl rfl (fun qc21 => ?_) (fun qc21 => ?_)
      · replace hf := xi_pos hf qc21
        refine XS.go (s_aloadn rfl rfl rfl) ?_
        refine XS.go (s_aloadn rfl rfl rfl) ?_
        refine XS.go (s_getr rfl xf12_116 (LY.lt L18 (by decide)) (LY.k1262 L18) (by decide) rfl (LY.r1262_54 L18)) ?_
        refine XS.go (s_iload rfl rfl) ?_
        refine XS.go (s_iconst (v := 4) rfl rfl) ?_
        refine r_icmp_ne (tgt := 320) rfl rfl (fun qc22 => ?_) (fun qc22 => ?_)
        · replace hf := xi_pos hf qc22
          refine XS.go (s_iconst (v := 0) rfl rfl) ?_
          exact XR.forget (L2 := [some (.ref 1262), none, none, none, some (.int x4), none, none, none, some (.int (hi r16.2 1289 (Int32.toNatClampNeg x3)))]) ⟨rfl, ⟨rfl, ⟨rfl, trivial⟩⟩⟩ (kb_m_set_321 L18 hf)
        · replace hf := xi_neg hf qc22
          refine XS.go (s_iconst (v := 1) rfl rfl) ?_
          refine XS.go (s_goto (tgt := 321) rfl rfl) ?_
          exact XR.forget (L2 := [some (.ref 1262), none, none, none, some (.int x4), none, none, none, some (.int (hi r16.2 1289 (Int32.toNatClampNeg x3)))]) ⟨rfl, ⟨rfl, ⟨rfl, trivial⟩⟩⟩ (kb_m_set_321 L18 hf)
      · replace hf := xi_neg hf qc21
        refine XS.go (s_aloadn rfl rfl rfl) ?_
        refine XS.go (s_aloadn rfl rfl rfl) ?_
        refine XS.go (s_getr rfl xf12_82 (LY.lt L18 (by decide)) (LY.k1262 L18) (by decide) rfl (LY.r1262_36 L18)) ?_
        refine XS.go (s_iloadn rfl rfl rfl) ?_
        refine XS.go (s_ialde rfl (LY.lt L18 (by decide)) (LY.k1287 L18) (inLit (LY.n1287 L18) qk19.1 qk19.2 (by decide)) rfl) ?_
        refine XS.go (s_iconst (v := 0) rfl rfl) ?_
        replace hf := xb_some hf
        obtain ⟨r23, e24, hf⟩ := hf
        refine r_callv rfl xvX12_putStruct xm12_420 (kf_m_putStruct (d := d) L18 e24) (LY.lt L18 (by decide)) (LY.k1262 L18) (by decide) rfl rfl (dl (by decide)) (by decide) (Nat.le_of_ble_eq_true rfl) ?_
        rintro _ _ ⟨⟨rfl, rfl⟩, L25⟩
        refine XS.go (s_goto (tgt := 326) rfl rfl) ?_
        exact XR.forget (L2 := [some (.ref 1262), none, none, none, some (.int x4), none, none, none, some (.int (hi r16.2 1289 (Int32.toNatClampNeg x3)))]) ⟨rfl, ⟨rfl, ⟨rfl, trivial⟩⟩⟩ (kb_m_set_326 L25 hf)
    · replace hf := xi_neg hf qc20
      refine XS.go (s_aloadn rfl rfl rfl) ?_
      refine XS.go (s_aloadn rfl rfl rfl) ?_
      refine XS.go (s_getr rfl xf12_116 (LY.lt L18 (by decide)) (LY.k1262 L18) (by decide) rfl (LY.r1262_54 L18)) ?_
      refine XS.go (s_iconst (v := 0) rfl rfl) ?_
      refine XS.go (s_lalde rfl (LY.lt L18 (by decide)) (LY.k1298 L18) (inN (k := 0) (LY.n1298 L18) rfl (by decide) (by decide)) rfl) ?_
      refine XS.go (s_iload rfl rfl) ?_
      replace hf := xb_some hf
      obtain ⟨r26, e27, hf⟩ := hf
      refine r_callv rfl xvX12_ahead xm12_396 (kf_m_ahead (d := d) L18 e27) (LY.lt L18 (by decide)) (LY.k1262 L18) (by decide) rfl rfl (dl0 (by decide)) (by decide) (Nat.le_of_ble_eq_true rfl) ?_
      rintro _ _ ⟨⟨rfl, rfl⟩, L28⟩
      refine XS.go (s_goto (tgt := 326) rfl rfl) ?_
      exact XR.forget (L2 := [some (.ref 1262), none, none, none, some (.int x4), none, none, none, some (.int (hi r16.2 1289 (Int32.toNatClampNeg x3)))]) ⟨rfl, ⟨rfl, ⟨rfl, trivial⟩⟩⟩ (kb_m_set_326 L28 hf)
  · replace hf := xi_neg hf qc11
    refine XS.go (s_aloadn rfl rfl rfl) ?_
    refine XS.go (s_iconst (v := 4) rfl rfl) ?_
    refine XS.go (s_puti rfl xf12_175 (LY.lt L0 (by decide)) (LY.k1262 L0) (by decide) rfl (Or.inl rfl)) ?_
    refine XS.go (s_iconst (v := 0) rfl rfl) ?_
    cases hf
    exact XR.retz rfl rfl (by decide) (fun hret => ⟨_, hret, ⟨rfl, rfl⟩, (by simp only [LY_si, LY_sj]; exact L0)⟩)
def b_m_set_187 (x1 : Int32) (x3 : Int32) (x4 : Int32) (x5 : Int32) (y0 : Int32) (h : XH) : Option (Int32 × XH) := (Option.bind (f_m_fill (hi h 1262 57) x5 y0 h) fun r29 => (if ¬ x4 = 4 then (b_m_set_224 x1 x3 x4 x5 y0 r29.1 (((hi r29.2 1262 57) + r29.1) + x5) 0 r29.2) else (b_m_set_224 x1 x3 x4 x5 y0 r29.1 (((hi r29.2 1262 57) + r29.1) + x5) 1 r29.2)))
set_option maxRecDepth 20000 in
theorem kb_m_set_187 {l : Launch} {G : XG} {d : Nat} {x1 : Int32} {x3 : Int32} {x4 : Int32} {x5 : Int32} {y0 : Int32} {h : XH} {r : Int32 × XH} (L0 : LY h) (hf : b_m_set_187 x1 x3 x4 x5 y0 h = some r) : XR l G xEX12_set (d + 4) (187, [some (.ref 1262), some (.int x1), none, some (.int x3), some (.int x4), some (.int x5), none, none, none], [(.int y0)], h) (fun C => ∃ v, xRet xEX12_set C v ∧ (C.2.2.2 = r.2 ∧ v = some (.int r.1)) ∧ LY r.2) := by
  unfold b_m_set_187 at hf
  refine XS.go (XS.lcl (L3 := [some (.ref 1262), some (.int x1), none, some (.int x3), some (.int x4), some (.int x5), some (.int y0), none, none]) (s_istore rfl (Nat.le_of_ble_eq_true rfl)) rfl) ?_
  refine XS.go (s_aloadn rfl rfl rfl) ?_
  refine XS.go (s_aloadn rfl rfl rfl) ?_
  refine XS.go (s_getie rfl xf12_382 (LY.lt L0 (by decide)) (LY.k1262 L0) (by decide) rfl rfl) ?_
  refine XS.go (s_iload rfl rfl) ?_
  refine XS.go (s_iload rfl rfl) ?_
  replace hf := xb_some hf
  obtain ⟨r29, e30, hf⟩ := hf
  refine r_callv rfl xvX12_fill xm12_400 (kf_m_fill (d := d) L0 e30) (LY.lt L0 (by decide)) (LY.k1262 L0) (by decide) rfl rfl (dl0 (by decide)) (by decide) (Nat.le_of_ble_eq_true rfl) ?_
  rintro _ _ ⟨⟨rfl, rfl⟩, L31⟩
  refine XS.go (XS.lcl (L3 := [some (.ref 1262), some (.int x1), none, some (.int x3), some (.int x4), some (.int x5), some (.int y0), some (.int r29.1), none]) (s_istore rfl (Nat.le_of_ble_eq_true rfl)) rfl) ?_
  refine XS.go (s_aloadn rfl rfl rfl) ?_
  refine XS.go (s_getie rfl xf12_382 (LY.lt L31 (by decide)) (LY.k1262 L31) (by decide) rfl rfl) ?_
  refine XS.go (s_iload rfl rfl) ?_
  refine XS.go (s_iadd rfl) ?_
  refine XS.go (s_iload rfl rfl) ?_
  refine XS.go (s_iadd rfl) ?_
  refine XS.go (s_iload rfl rfl) ?_
  refine XS.go (s_iconst (v := 4) rfl rfl) ?_
  refine r_icmp_ne (tgt := 223) rfl rfl (fun qc32 => ?_) (fun qc32 => ?_)
  · replace hf := xi_pos hf qc32
    refine XS.go (s_iconst (v := 0) rfl rfl) ?_
    exact XR.forget (L2 := [some (.ref 1262), some (.int x1), none, some (.int x3), some (.int x4), some (.int x5), some (.int y0), some (.int r29.1), none]) ⟨rfl, ⟨rfl, ⟨rfl, ⟨rfl, ⟨rfl, ⟨rfl, ⟨rfl, trivial⟩⟩⟩⟩⟩⟩⟩ (kb_m_set_224 L31 hf)
  · replace hf := xi_neg hf qc32
    refine XS.go (s_iconst (v := 1) rfl rfl) ?_
    refine XS.go (s_goto (tgt := 224) rfl rfl) ?_
    exact XR.forget (L2 := [some (.ref 1262), some (.int x1), none, some (.int x3), some (.int x4), some (.int x5), some (.int y0), some (.int r29.1), none]) ⟨rfl, ⟨rfl, ⟨rfl, ⟨rfl, ⟨rfl, ⟨rfl, ⟨rfl, trivial⟩⟩⟩⟩⟩⟩⟩ (kb_m_set_224 L31 hf)
def b_m_set_154 (x1 : Int32) (x3 : Int32) (x4 : Int32) (y0 : Int32) (h : XH) : Option (Int32 × XH) := (if ¬ x4 = 0 then (if ¬ x4 = 2 then (b_m_set_187 x1 x3 x4 y0 4 h) else (if 0 ≤ x3 ∧ x3 < nI 256 then (if 0 ≤ (hi h 1287 (Int32.toNatClampNeg x3)) ∧ (hi h 1287 (Int32.toNatClampNeg x3)) < nI 12 then (b_m_set_187 x1 x3 x4 y0 (hi h 1275 (Int32.toNatClampNeg (hi h 1287 (Int32.toNatClampNeg x3)))) h) else none) else none)) else (b_m_set_187 x1 x3 x4 y0 y0 h))
set_option maxRecDepth 20000 in
theorem kb_m_set_154 {l : Launch} {G : XG} {d : Nat} {x1 : Int32} {x3 : Int32} {x4 : Int32} {y0 : Int32} {h : XH} {r : Int32 × XH} (L0 : LY h) (hf : b_m_set_154 x1 x3 x4 y0 h = some r) : XR l G xEX12_set (d + 4) (154, [some (.ref 1262), some (.int x1), none, some (.int x3), some (.int x4), none, none, none, none], [(.int y0)], h) (fun C => ∃ v, xRet xEX12_set C v ∧ (C.2.2.2 = r.2 ∧ v = some (.int r.1)) ∧ LY r.2) := by
  unfold b_m_set_154 at hf
  refine XS.go (XS.lcl (L3 := [some (.ref 1262), some (.int x1), none, some (.int x3), some (.int x4), some (.int y0), none, none, none]) (s_istore rfl (Nat.le_of_ble_eq_true rfl)) rfl) ?_
  refine XS.go (s_iload rfl rfl) ?_
  refine r_if_ne (tgt := 166) rfl rfl (fun qc33 => ?_) (fun qc33 => ?_)
  · replace hf := xi_pos hf qc33
    refine XS.go (s_iload rfl rfl) ?_
    refine XS.go (s_iconst (v := 2) rfl rfl) ?_
    refine r_icmp_ne (tgt := 186) rfl rfl (fun qc34 => ?_) (fun qc34 => ?_)
    · replace hf := xi_pos hf qc34
      refine XS.go (s_iconst (v := 4) rfl rfl) ?_
      exact XR.forget (L2 := [some (.ref 1262), some (.int x1), none, some (.int x3), some (.int x4), some (.int y0), none, none, none]) ⟨rfl, ⟨rfl, ⟨rfl, ⟨rfl, ⟨rfl, trivial⟩⟩⟩⟩⟩ (kb_m_set_187 L0 hf)
    · replace hf := xi_neg hf qc34
      refine XS.go (s_aloadn rfl rfl rfl) ?_
      refine XS.go (s_getr rfl xf12_46 (LY.lt L0 (by decide)) (LY.k1262 L0) (by decide) rfl (LY.r1262_23 L0)) ?_
      refine XS.go (s_aloadn rfl rfl rfl) ?_
      refine XS.go (s_getr rfl xf12_82 (LY.lt L0 (by decide)) (LY.k1262 L0) (by decide) rfl (LY.r1262_36 L0)) ?_
      refine XS.go (s_iloadn rfl rfl rfl) ?_
      replace hf := xi_none hf
      obtain ⟨qk35, hf⟩ := hf
      refine XS.go (s_ialde rfl (LY.lt L0 (by decide)) (LY.k1287 L0) (inLit (LY.n1287 L0) qk35.1 qk35.2 (by decide)) rfl) ?_
      replace hf := xi_none hf
      obtain ⟨qk36, hf⟩ := hf
      refine XS.go (s_ialde rfl (LY.lt L0 (by decide)) (LY.k1275 L0) (inLit (LY.n1275 L0) qk36.1 qk36.2 (by decide)) rfl) ?_
      refine XS.go (s_goto (tgt := 187) rfl rfl) ?_
      exact XR.forget (L2 := [some (.ref 1262), some (.int x1), none, some (.int x3), some (.int x4), some (.int y0), none, none, none]) ⟨rfl, ⟨rfl, ⟨rfl, ⟨rfl, ⟨rfl, trivial⟩⟩⟩⟩⟩ (kb_m_set_187 L0 hf)
  · replace hf := xi_neg hf qc33
    refine XS.go (s_iload rfl rfl) ?_
    refine XS.go (s_goto (tgt := 187) rfl rfl) ?_
    exact XR.forget (L2 := [some (.ref 1262), some (.int x1), none, some (.int x3), some (.int x4), some (.int y0), none, none, none]) ⟨rfl, ⟨rfl, ⟨rfl, ⟨rfl, ⟨rfl, trivial⟩⟩⟩⟩⟩ (kb_m_set_187 L0 hf)
def b_m_set_116 (x1 : Int32) (x3 : Int32) (x4 : Int32) (h : XH) : Option (Int32 × XH) := (if ¬ x4 = 0 then (if ¬ x4 = 2 then (b_m_set_154 x1 x3 x4 4 h) else (if 0 ≤ x3 ∧ x3 < nI 256 then (if 0 ≤ (hi h 1287 (Int32.toNatClampNeg x3)) ∧ (hi h 1287 (Int32.toNatClampNeg x3)) < nI 12 then (b_m_set_154 x1 x3 x4 (hi h 1274 (Int32.toNatClampNeg (hi h 1287 (Int32.toNatClampNeg x3)))) h) else none) else none)) else (if 0 ≤ x3 ∧ x3 < nI 256 then (Option.bind (f_m_bytesOf (hi h 1287 (Int32.toNatClampNeg x3)) h) fun r42 => (b_m_set_154 x1 x3 x4 r42.1 r42.2)) else none))
set_option maxRecDepth 20000 in
theorem kb_m_set_116 {l : Launch} {G : XG} {d : Nat} {x1 : Int32} {x3 : Int32} {x4 : Int32} {h : XH} {r : Int32 × XH} (L0 : LY h) (hf : b_m_set_116 x1 x3 x4 h = some r) : XR l G xEX12_set (d + 4) (116, [some (.ref 1262), some (.int x1), none, some (.int x3), some (.int x4), none, none, none, none], [], h) (fun C => ∃ v, xRet xEX12_set C v ∧ (C.2.2.2 = r.2 ∧ v = some (.int r.1)) ∧ LY r.2) := by
  unfold b_m_set_116 at hf
  refine XS.go (s_iload rfl rfl) ?_
  refine r_if_ne (tgt := 133) rfl rfl (fun qc37 => ?_) (fun qc37 => ?_)
  · replace hf := xi_pos hf qc37
    refine XS.go (s_iload rfl rfl) ?_
    refine XS.go (s_iconst (v := 2) rfl rfl) ?_
    refine r_icmp_ne (tgt := 153) rfl rfl (fun qc38 => ?_) (fun qc38 => ?_)
    · replace hf := xi_pos hf qc38
      refine XS.go (s_iconst (v := 4) rfl rfl) ?_
      exact XR.forget (L2 := [some (.ref 1262), some (.int x1), none, some (.int x3), some (.int x4), none, none, none, none]) ⟨rfl, ⟨rfl, ⟨rfl, ⟨rfl, trivial⟩⟩⟩⟩ (kb_m_set_154 L0 hf)
    · replace hf := xi_neg hf qc38
      refine XS.go (s_aloadn rfl rfl rfl) ?_
      refine XS.go (s_getr rfl xf12_43 (LY.lt L0 (by decide)) (LY.k1262 L0) (by decide) rfl (LY.r1262_22 L0)) ?_
      refine XS.go (s_aloadn rfl rfl rfl) ?_
      refine XS.go (s_getr rfl xf12_82 (LY.lt L0 (by decide)) (LY.k1262 L0) (by decide) rfl (LY.r1262_36 L0)) ?_
      refine XS.go (s_iloadn rfl rfl rfl) ?_
      replace hf := xi_none hf
      obtain ⟨qk39, hf⟩ := hf
      refine XS.go (s_ialde rfl (LY.lt L0 (by decide)) (LY.k1287 L0) (inLit (LY.n1287 L0) qk39.1 qk39.2 (by decide)) rfl) ?_
      replace hf := xi_none hf
      obtain ⟨qk40, hf⟩ := hf
      refine XS.go (s_ialde rfl (LY.lt L0 (by decide)) (LY.k1274 L0) (inLit (LY.n1274 L0) qk40.1 qk40.2 (by decide)) rfl) ?_
      refine XS.go (s_goto (tgt := 154) rfl rfl) ?_
      exact XR.forget (L2 := [some (.ref 1262), some (.int x1), none, some (.int x3), some (.int x4), none, none, none, none]) ⟨rfl, ⟨rfl, ⟨rfl, ⟨rfl, trivial⟩⟩⟩⟩ (kb_m_set_154 L0 hf)
  · replace hf := xi_neg hf qc37
    refine XS.go (s_aloadn rfl rfl rfl) ?_
    refine XS.go (s_getr rfl xf12_82 (LY.lt L0 (by decide)) (LY.k1262 L0) (by decide) rfl (LY.r1262_36 L0)) ?_
    refine XS.go (s_iloadn rfl rfl rfl) ?_
    replace hf := xi_none hf
    obtain ⟨qk41, hf⟩ := hf
    refine XS.go (s_ialde rfl (LY.lt L0 (by decide)) (LY.k1287 L0) (inLit (LY.n1287 L0) qk41.1 qk41.2 (by decide)) rfl) ?_
    replace hf := xb_some hf
    obtain ⟨r42, e43, hf⟩ := hf
    refine r_calls rfl xsX12_bytesOf xm12_315 (kf_m_bytesOf (d := d) L0 e43) rfl rfl (dl0 (by decide)) (by decide) (Nat.le_of_ble_eq_true rfl) ?_
    rintro _ _ ⟨⟨rfl, rfl⟩, L44⟩
    refine XS.go (s_goto (tgt := 154) rfl rfl) ?_
    exact XR.forget (L2 := [some (.ref 1262), some (.int x1), none, some (.int x3), some (.int x4), none, none, none, none]) ⟨rfl, ⟨rfl, ⟨rfl, ⟨rfl, trivial⟩⟩⟩⟩ (kb_m_set_154 L44 hf)
def b_m_set_71 (h : XH) : Option (Int32 × XH) := (some (0, (hsi h 1262 0 3)))
set_option maxRecDepth 20000 in
theorem kb_m_set_71 {l : Launch} {G : XG} {d : Nat} {h : XH} {r : Int32 × XH} (L0 : LY h) (hf : b_m_set_71 h = some r) : XR l G xEX12_set (d + 4) (71, [some (.ref 1262), none, none, none, none, none, none, none, none], [], h) (fun C => ∃ v, xRet xEX12_set C v ∧ (C.2.2.2 = r.2 ∧ v = some (.int r.1)) ∧ LY r.2) := by
  unfold b_m_set_71 at hf
  refine XS.go (s_aloadn rfl rfl rfl) ?_
  refine XS.go (s_iconst (v := 3) rfl rfl) ?_
  refine XS.go (s_puti rfl xf12_175 (LY.lt L0 (by decide)) (LY.k1262 L0) (by decide) rfl (Or.inl rfl)) ?_
  refine XS.go (s_iconst (v := 0) rfl rfl) ?_
  cases hf
  exact XR.retz rfl rfl (by decide) (fun hret => ⟨_, hret, ⟨rfl, rfl⟩, (by simp only [LY_si, LY_sj]; exact L0)⟩)
def f_m_set (a0 : Int32) (h : XH) : Option (Int32 × XH) := (if ¬ (hi h 1262 67) = (-1) then (Option.bind (f_m_fieldOf 0 (hi h 1262 67) a0 (hsi (hsi h 1262 0 0) 1262 55 0)) fun r46 => (if ¬ r46.1 = (-1) then (if 0 ≤ a0 ∧ a0 < nI 16 then (if ¬ (hi r46.2 1306 (Int32.toNatClampNeg a0)) = 0 then (b_m_set_71 r46.2) else (Option.bind (f_m_fits r46.1 (hi h 1262 55) r46.2) fun r52 => (if ¬ r52.1 = 0 then (if 0 ≤ r46.1 ∧ r46.1 < nI 256 then (if ¬ (hi r52.2 1286 (Int32.toNatClampNeg r46.1)) = 0 then (b_m_set_116 a0 r46.1 (hi r52.2 1286 (Int32.toNatClampNeg r46.1)) r52.2) else (if ¬ (lg_cmp (hj r52.2 1298 (Int32.toNatClampNeg 0)) (hj r52.2 1291 (Int32.toNatClampNeg r46.1))) = 0 then (b_m_set_116 a0 r46.1 (hi r52.2 1286 (Int32.toNatClampNeg r46.1)) r52.2) else (if 0 ≤ a0 ∧ a0 < nI 16 then (some (0, (hsi r52.2 1306 (Int32.toNatClampNeg a0) (vp_nar .boolean 1)))) else none))) else none) else (b_m_set_71 r52.2)))) else none) else (some (0, (hsi r46.2 1262 0 2))))) else (some (0, (hsi (hsi (hsi h 1262 0 0) 1262 55 0) 1262 0 1))))
set_option maxRecDepth 20000 in
theorem kf_m_set {l : Launch} {G : XG} {d : Nat} {a0 : Int32} {h : XH} {r : Int32 × XH} (L0 : LY h) (hf : f_m_set a0 h = some r) : XC l G xEX12_set (d + 4) [.ref 1262, .int a0] h (fun v h2 => (h2 = r.2 ∧ v = some (.int r.1)) ∧ LY r.2) := by
  refine XC.virt xvX12_set (Nat.le_of_ble_eq_true rfl) ?_
  unfold f_m_set at hf
  refine XR.norm (L3 := [some (.ref 1262), some (.int a0), none, none, none, none, none, none, none]) rfl ?_
  refine XS.go (s_aloadn rfl rfl rfl) ?_
  refine XS.go (s_iconst (v := 0) rfl rfl) ?_
  refine XS.go (s_puti rfl xf12_175 (LY.lt L0 (by decide)) (LY.k1262 L0) (by decide) rfl (Or.inl rfl)) ?_
  refine XS.go (s_aloadn rfl rfl rfl) ?_
  refine XS.go (s_getie rfl xf12_379 (LY.lt (by simp only [LY_si, LY_sj]; exact L0) (by decide)) (LY.k1262 (by simp only [LY_si, LY_sj]; exact L0)) (by decide) rfl (hi_hsi_nk (by decide))) ?_
  refine XS.go (XS.lcl (L3 := [some (.ref 1262), some (.int a0), some (.int (hi h 1262 55)), none, none, none, none, none, none]) (s_istoren rfl rfl (Nat.le_of_ble_eq_true rfl)) rfl) ?_
  refine XS.go (s_aloadn rfl rfl rfl) ?_
  refine XS.go (s_iconst (v := 0) rfl rfl) ?_
  refine XS.go (s_puti rfl xf12_379 (LY.lt (by simp only [LY_si, LY_sj]; exact L0) (by decide)) (LY.k1262 (by simp only [LY_si, LY_sj]; exact L0)) (by decide) rfl (Or.inl rfl)) ?_
  refine XS.go (s_aloadn rfl rfl rfl) ?_
  refine XS.go (s_getie rfl xf12_140 (LY.lt (by simp only [LY_si, LY_sj]; exact L0) (by decide)) (LY.k1262 (by simp only [LY_si, LY_sj]; exact L0)) (by decide) rfl ((hi_hsi_nk (by decide)).trans (hi_hsi_nk (by decide)))) ?_
  refine XS.go (s_iconst (v := (-1)) rfl rfl) ?_
  refine r_icmp_ne (tgt := 30) rfl rfl (fun qc45 => ?_) (fun qc45 => ?_)
  · replace hf := xi_pos hf qc45
    refine XS.go (s_aloadn rfl rfl rfl) ?_
    refine XS.go (s_iconst (v := 0) rfl rfl) ?_
    refine XS.go (s_aloadn rfl rfl rfl) ?_
    refine XS.go (s_getie rfl xf12_140 (LY.lt (by simp only [LY_si, LY_sj]; exact L0) (by decide)) (LY.k1262 (by simp only [LY_si, LY_sj]; exact L0)) (by decide) rfl ((hi_hsi_nk (by decide)).trans (hi_hsi_nk (by decide)))) ?_
    refine XS.go (s_iloadn rfl rfl rfl) ?_
    replace hf := xb_some hf
    obtain ⟨r46, e47, hf⟩ := hf
    refine r_callv rfl xvX12_fieldOf xm12_375 (kf_m_fieldOf (d := d) (by simp only [LY_si, LY_sj]; exact L0) e47) (LY.lt (by simp only [LY_si, LY_sj]; exact L0) (by decide)) (LY.k1262 (by simp only [LY_si, LY_sj]; exact L0)) (by decide) rfl rfl (dl (by decide)) (by decide) (Nat.le_of_ble_eq_true rfl) ?_
    rintro _ _ ⟨⟨rfl, rfl⟩, L48⟩
    refine XS.go (XS.lcl (L3 := [some (.ref 1262), some (.int a0), some (.int (hi h 1262 55)), some (.int r46.1), none, none, none, none, none]) (s_istoren rfl rfl (Nat.le_of_ble_eq_true rfl)) rfl) ?_
    refine XS.go (s_iloadn rfl rfl rfl) ?_
    refine XS.go (s_iconst (v := (-1)) rfl rfl) ?_
    refine r_icmp_ne (tgt := 53) rfl rfl (fun qc49 => ?_) (fun qc49 => ?_)
    · replace hf := xi_pos hf qc49
      refine XS.go (s_aloadn rfl rfl rfl) ?_
      refine XS.go (s_getr rfl xf12_144 (LY.lt L48 (by decide)) (LY.k1262 L48) (by decide) rfl (LY.r1262_69 L48)) ?_
      refine XS.go (s_iloadn rfl rfl rfl) ?_
      replace hf := xi_none hf
      obtain ⟨qk50, hf⟩ := hf
      refine XS.go (s_zalde rfl (LY.lt L48 (by decide)) (LY.k1306 L48) (inLit (LY.n1306 L48) qk50.1 qk50.2 (by decide)) rfl) ?_
      refine r_if_ne (tgt := 71) rfl rfl (fun qc51 => ?_) (fun qc51 => ?_)
      · replace hf := xi_pos hf qc51
        exact XR.forget (L2 := [some (.ref 1262), none, none, none, none, none, none, none, none]) ⟨rfl, trivial⟩ (kb_m_set_71 L48 hf)
      · replace hf := xi_neg hf qc51
        refine XS.go (s_aloadn rfl rfl rfl) ?_
        refine XS.go (s_iloadn rfl rfl rfl) ?_
        refine XS.go (s_iloadn rfl rfl rfl) ?_
        replace hf := xb_some hf
        obtain ⟨r52, e53, hf⟩ := hf
        refine r_callv rfl xvX12_fits xm12_429 (kf_m_fits (d := d) L48 e53) (LY.lt L48 (by decide)) (LY.k1262 L48) (by decide) rfl rfl (dl (by decide)) (by decide) (Nat.le_of_ble_eq_true rfl) ?_
        rintro _ _ ⟨⟨rfl, rfl⟩, L54⟩
        refine r_if_ne (tgt := 78) rfl rfl (fun qc55 => ?_) (fun qc55 => ?_)
        · replace hf := xi_pos hf qc55
          refine XS.go (s_aloadn rfl rfl rfl) ?_
          refine XS.go (s_getr rfl xf12_79 (LY.lt L54 (by decide)) (LY.k1262 L54) (by decide) rfl (LY.r1262_35 L54)) ?_
          refine XS.go (s_iloadn rfl rfl rfl) ?_
          replace hf := xi_none hf
          obtain ⟨qk56, hf⟩ := hf
          refine XS.go (s_ialde rfl (LY.lt L54 (by decide)) (LY.k1286 L54) (inLit (LY.n1286 L54) qk56.1 qk56.2 (by decide)) rfl) ?_
          refine XS.go (XS.lcl (L3 := [some (.ref 1262), some (.int a0), some (.int (hi h 1262 55)), some (.int r46.1), some (.int (hi r52.2 1286 (Int32.toNatClampNeg r46.1))), none, none, none, none]) (s_istore rfl (Nat.le_of_ble_eq_true rfl)) rfl) ?_
          refine XS.go (s_iload rfl rfl) ?_
          refine r_if_ne (tgt := 116) rfl rfl (fun qc57 => ?_) (fun qc57 => ?_)
          · replace hf := xi_pos hf qc57
            exact XR.forget (L2 := [some (.ref 1262), some (.int a0), none, some (.int r46.1), some (.int (hi r52.2 1286 (Int32.toNatClampNeg r46.1))), none, none, none, none]) ⟨rfl, ⟨rfl, ⟨rfl, ⟨rfl, trivial⟩⟩⟩⟩ (kb_m_set_116 L54 hf)
          · replace hf := xi_neg hf qc57
            refine XS.go (s_aloadn rfl rfl rfl) ?_
            refine XS.go (s_getr rfl xf12_116 (LY.lt L54 (by decide)) (LY.k1262 L54) (by decide) rfl (LY.r1262_54 L54)) ?_
            refine XS.go (s_iconst (v := 0) rfl rfl) ?_
            refine XS.go (s_lalde rfl (LY.lt L54 (by decide)) (LY.k1298 L54) (inN (k := 0) (LY.n1298 L54) rfl (by decide) (by decide)) rfl) ?_
            refine XS.go (s_aloadn rfl rfl rfl) ?_
            refine XS.go (s_getr rfl xf12_94 (LY.lt L54 (by decide)) (LY.k1262 L54) (by decide) rfl (LY.r1262_40 L54)) ?_
            refine XS.go (s_iloadn rfl rfl rfl) ?_
            refine XS.go (s_lalde rfl (LY.lt L54 (by decide)) (LY.k1291 L54) (inLit (LY.n1291 L54) qk56.1 qk56.2 (by decide)) rfl) ?_
            refine XS.go (s_lcmp rfl) ?_
            refine r_if_ne (tgt := 116) rfl rfl (fun qc58 => ?_) (fun qc58 => ?_)
            · replace hf := xi_pos hf qc58
              exact XR.forget (L2 := [some (.ref 1262), some (.int a0), none, some (.int r46.1), some (.int (hi r52.2 1286 (Int32.toNatClampNeg r46.1))), none, none, none, none]) ⟨rfl, ⟨rfl, ⟨rfl, ⟨rfl, trivial⟩⟩⟩⟩ (kb_m_set_116 L54 hf)
            · replace hf := xi_neg hf qc58
              refine XS.go (s_aloadn rfl rfl rfl) ?_
              refine XS.go (s_getr rfl xf12_144 (LY.lt L54 (by decide)) (LY.k1262 L54) (by decide) rfl (LY.r1262_69 L54)) ?_
              refine XS.go (s_iloadn rfl rfl rfl) ?_
              refine XS.go (s_iconst (v := 1) rfl rfl) ?_
              replace hf := xi_none hf
              obtain ⟨qk59, hf⟩ := hf
              refine XS.go (s_zast rfl (LY.lt L54 (by decide)) (LY.k1306 L54) (inLit (LY.n1306 L54) qk59.1 qk59.2 (by decide))) ?_
              refine XS.go (s_iconst (v := 0) rfl rfl) ?_
              cases hf
              exact XR.retz rfl rfl (by decide) (fun hret => ⟨_, hret, ⟨rfl, rfl⟩, (by simp only [LY_si, LY_sj]; exact L54)⟩)
        · replace hf := xi_neg hf qc55
          exact XR.forget (L2 := [some (.ref 1262), none, none, none, none, none, none, none, none]) ⟨rfl, trivial⟩ (kb_m_set_71 L54 hf)
    · replace hf := xi_neg hf qc49
      refine XS.go (s_aloadn rfl rfl rfl) ?_
      refine XS.go (s_iconst (v := 2) rfl rfl) ?_
      refine XS.go (s_puti rfl xf12_175 (LY.lt L48 (by decide)) (LY.k1262 L48) (by decide) rfl (Or.inl rfl)) ?_
      refine XS.go (s_iconst (v := 0) rfl rfl) ?_
      cases hf
      exact XR.retz rfl rfl (by decide) (fun hret => ⟨_, hret, ⟨rfl, rfl⟩, (by simp only [LY_si, LY_sj]; exact L48)⟩)
  · replace hf := xi_neg hf qc45
    refine XS.go (s_aloadn rfl rfl rfl) ?_
    refine XS.go (s_iconst (v := 1) rfl rfl) ?_
    refine XS.go (s_puti rfl xf12_175 (LY.lt (by simp only [LY_si, LY_sj]; exact L0) (by decide)) (LY.k1262 (by simp only [LY_si, LY_sj]; exact L0)) (by decide) rfl (Or.inl rfl)) ?_
    refine XS.go (s_iconst (v := 0) rfl rfl) ?_
    cases hf
    exact XR.retz rfl rfl (by decide) (fun hret => ⟨_, hret, ⟨rfl, rfl⟩, (by simp only [LY_si, LY_sj]; exact L0)⟩)
def b_m_lacks_44 (K2 : Int32 → XH → Option (Int32 × XH)) (x1 : Int32) (h : XH) : Option (Int32 × XH) := (K2 (x1 + 1) h)
set_option maxRecDepth 20000 in
theorem kb_m_lacks_44 {l : Launch} {G : XG} {d : Nat} {K2 : Int32 → XH → Option (Int32 × XH)} {x1 : Int32} {h : XH} {r : Int32 × XH} (hK2 : ∀ (x1 : Int32) (h : XH), LY h → K2 x1 h = some r → XR l G xEX12_lacks d (2, [some (.ref 1262), some (.int x1)], [], h) (fun C => ∃ v, xRet xEX12_lacks C v ∧ (C.2.2.2 = r.2 ∧ v = some (.int r.1)) ∧ LY r.2)) (L0 : LY h) (hf : b_m_lacks_44 K2 x1 h = some r) : XR l G xEX12_lacks d (44, [some (.ref 1262), some (.int x1)], [], h) (fun C => ∃ v, xRet xEX12_lacks C v ∧ (C.2.2.2 = r.2 ∧ v = some (.int r.1)) ∧ LY r.2) := by
  unfold b_m_lacks_44 at hf
  refine XS.go (XS.lcl (L3 := [some (.ref 1262), some (.int (x1 + 1))]) (s_inc rfl rfl (Nat.le_of_ble_eq_true rfl)) rfl) ?_
  refine XS.go (s_goto (tgt := 2) rfl rfl) ?_
  exact XR.forget (L2 := [some (.ref 1262), some (.int (x1 + 1))]) ⟨rfl, ⟨rfl, trivial⟩⟩ (hK2 (x1 + 1) _ L0 hf)
def s_m_lacks_2 (K2 : Int32 → XH → Option (Int32 × XH)) (x1 : Int32) (h : XH) : Option (Int32 × XH) := (if 0 ≤ (hi h 1262 67) ∧ (hi h 1262 67) < nI 16 then (if (hi h 1283 (Int32.toNatClampNeg (hi h 1262 67))) ≤ x1 then (some (0, h)) else (if 0 ≤ ((16 * (hi h 1262 67)) + x1) ∧ ((16 * (hi h 1262 67)) + x1) < nI 256 then (if ¬ (hi h 1290 (Int32.toNatClampNeg ((16 * (hi h 1262 67)) + x1))) = 1 then (b_m_lacks_44 K2 x1 h) else (if 0 ≤ x1 ∧ x1 < nI 16 then (if ¬ (hi h 1306 (Int32.toNatClampNeg x1)) = 0 then (b_m_lacks_44 K2 x1 h) else (some (1, h))) else none)) else none)) else none)
set_option maxRecDepth 20000 in
theorem ks_m_lacks_2 {l : Launch} {G : XG} {d : Nat} {K2 : Int32 → XH → Option (Int32 × XH)} {x1 : Int32} {h : XH} {r : Int32 × XH} (hK2 : ∀ (x1 : Int32) (h : XH), LY h → K2 x1 h = some r → XR l G xEX12_lacks d (2, [some (.ref 1262), some (.int x1)], [], h) (fun C => ∃ v, xRet xEX12_lacks C v ∧ (C.2.2.2 = r.2 ∧ v = some (.int r.1)) ∧ LY r.2)) (L0 : LY h) (hf : s_m_lacks_2 K2 x1 h = some r) : XR l G xEX12_lacks d (2, [some (.ref 1262), some (.int x1)], [], h) (fun C => ∃ v, xRet xEX12_lacks C v ∧ (C.2.2.2 = r.2 ∧ v = some (.int r.1)) ∧ LY r.2) := by
  unfold s_m_lacks_2 at hf
  refine XS.go (s_iloadn rfl rfl rfl) ?_
  refine XS.go (s_aloadn rfl rfl rfl) ?_
  refine XS.go (s_getr rfl xf12_70 (LY.lt L0 (by decide)) (LY.k1262 L0) (by decide) rfl (LY.r1262_32 L0)) ?_
  refine XS.go (s_aloadn rfl rfl rfl) ?_
  refine XS.go (s_getie rfl xf12_140 (LY.lt L0 (by decide)) (LY.k1262 L0) (by decide) rfl rfl) ?_
  replace hf := xi_none hf
  obtain ⟨qk1, hf⟩ := hf
  refine XS.go (s_ialde rfl (LY.lt L0 (by decide)) (LY.k1283 L0) (inLit (LY.n1283 L0) qk1.1 qk1.2 (by decide)) rfl) ?_
  refine r_icmp_ge (tgt := 50) rfl rfl (fun qc2 => ?_) (fun qc2 => ?_)
  · replace hf := xi_pos hf qc2
    refine XS.go (s_iconst (v := 0) rfl rfl) ?_
    cases hf
    exact XR.retz rfl rfl (by decide) (fun hret => ⟨_, hret, ⟨rfl, rfl⟩, L0⟩)
  · replace hf := xi_neg hf qc2
    refine XS.go (s_aloadn rfl rfl rfl) ?_
    refine XS.go (s_getr rfl xf12_91 (LY.lt L0 (by decide)) (LY.k1262 L0) (by decide) rfl (LY.r1262_39 L0)) ?_
    refine XS.go (s_bipush (v := 16) rfl rfl) ?_
    refine XS.go (s_aloadn rfl rfl rfl) ?_
    refine XS.go (s_getie rfl xf12_140 (LY.lt L0 (by decide)) (LY.k1262 L0) (by decide) rfl rfl) ?_
    refine XS.go (s_imul rfl) ?_
    refine XS.go (s_iloadn rfl rfl rfl) ?_
    refine XS.go (s_iadd rfl) ?_
    replace hf := xi_none hf
    obtain ⟨qk3, hf⟩ := hf
    refine XS.go (s_ialde rfl (LY.lt L0 (by decide)) (LY.k1290 L0) (inLit (LY.n1290 L0) qk3.1 qk3.2 (by decide)) rfl) ?_
    refine XS.go (s_iconst (v := 1) rfl rfl) ?_
    refine r_icmp_ne (tgt := 44) rfl rfl (fun qc4 => ?_) (fun qc4 => ?_)
    · replace hf := xi_pos hf qc4
      exact XR.forget (L2 := [some (.ref 1262), some (.int x1)]) ⟨rfl, ⟨rfl, trivial⟩⟩ (kb_m_lacks_44 hK2 L0 hf)
    · replace hf := xi_neg hf qc4
      refine XS.go (s_aloadn rfl rfl rfl) ?_
      refine XS.go (s_getr rfl xf12_144 (LY.lt L0 (by decide)) (LY.k1262 L0) (by decide) rfl (LY.r1262_69 L0)) ?_
      refine XS.go (s_iloadn rfl rfl rfl) ?_
      replace hf := xi_none hf
      obtain ⟨qk5, hf⟩ := hf
      refine XS.go (s_zalde rfl (LY.lt L0 (by decide)) (LY.k1306 L0) (inLit (LY.n1306 L0) qk5.1 qk5.2 (by decide)) rfl) ?_
      refine r_if_ne (tgt := 44) rfl rfl (fun qc6 => ?_) (fun qc6 => ?_)
      · replace hf := xi_pos hf qc6
        exact XR.forget (L2 := [some (.ref 1262), some (.int x1)]) ⟨rfl, ⟨rfl, trivial⟩⟩ (kb_m_lacks_44 hK2 L0 hf)
      · replace hf := xi_neg hf qc6
        refine XS.go (s_iconst (v := 1) rfl rfl) ?_
        cases hf
        exact XR.retz rfl rfl (by decide) (fun hret => ⟨_, hret, ⟨rfl, rfl⟩, L0⟩)
def b_m_lacks_2 : Nat → Int32 → XH → Option (Int32 × XH)
  | 0, _, _ => none
  | n + 1, x1, h => s_m_lacks_2 (b_m_lacks_2 n) x1 h
theorem kb_m_lacks_2 {l : Launch} {G : XG} {d : Nat} {n : Nat} {x1 : Int32} {h : XH} {r : Int32 × XH} (L0 : LY h) (hf : b_m_lacks_2 n x1 h = some r) : XR l G xEX12_lacks d (2, [some (.ref 1262), some (.int x1)], [], h) (fun C => ∃ v, xRet xEX12_lacks C v ∧ (C.2.2.2 = r.2 ∧ v = some (.int r.1)) ∧ LY r.2) := by
  induction n generalizing x1 h with
  | zero => cases hf
  | succ n ih => exact ks_m_lacks_2 (fun x1 h L0 hf => ih (h := h) (x1 := x1) L0 hf) L0 hf
def f_m_lacks (h : XH) : Option (Int32 × XH) := (b_m_lacks_2 100000 0 h)
set_option maxRecDepth 20000 in
theorem kf_m_lacks {l : Launch} {G : XG} {d : Nat} {h : XH} {r : Int32 × XH} (L0 : LY h) (hf : f_m_lacks h = some r) : XC l G xEX12_lacks d [.ref 1262] h (fun v h2 => (h2 = r.2 ∧ v = some (.int r.1)) ∧ LY r.2) := by
  refine XC.virt xvX12_lacks (Nat.le_of_ble_eq_true rfl) ?_
  unfold f_m_lacks at hf
  refine XR.norm (L3 := [some (.ref 1262), none]) rfl ?_
  refine XS.go (s_iconst (v := 0) rfl rfl) ?_
  refine XS.go (XS.lcl (L3 := [some (.ref 1262), some (.int 0)]) (s_istoren rfl rfl (Nat.le_of_ble_eq_true rfl)) rfl) ?_
  exact XR.forget (L2 := [some (.ref 1262), some (.int 0)]) ⟨rfl, ⟨rfl, trivial⟩⟩ (kb_m_lacks_2 L0 hf)
def b_m_known_77 (K2 : Int32 → Int32 → XH → Option (Int32 × XH)) (x1 : Int32) (x2 : Int32) (x3 : Int32) (h : XH) : Option (Int32 × XH) := (if x3 = 0 then (K2 x1 (x2 + 1) h) else (if 0 ≤ x2 ∧ x2 < nI 300 then (some ((hi h 1304 (Int32.toNatClampNeg x2)), h)) else none))
set_option maxRecDepth 20000 in
theorem kb_m_known_77 {l : Launch} {G : XG} {d : Nat} {K2 : Int32 → Int32 → XH → Option (Int32 × XH)} {x1 : Int32} {x2 : Int32} {x3 : Int32} {h : XH} {r : Int32 × XH} (hK2 : ∀ (x1 : Int32) (x2 : Int32) (h : XH), LY h → K2 x1 x2 h = some r → XR l G xEX12_known d (2, [some (.ref 1262), some (.int x1), some (.int x2), none, none], [], h) (fun C => ∃ v, xRet xEX12_known C v ∧ (C.2.2.2 = r.2 ∧ v = some (.int r.1)) ∧ LY r.2)) (L0 : LY h) (hf : b_m_known_77 K2 x1 x2 x3 h = some r) : XR l G xEX12_known d (77, [some (.ref 1262), some (.int x1), some (.int x2), some (.int x3), none], [], h) (fun C => ∃ v, xRet xEX12_known C v ∧ (C.2.2.2 = r.2 ∧ v = some (.int r.1)) ∧ LY r.2) := by
  unfold b_m_known_77 at hf
  refine XS.go (s_iloadn rfl rfl rfl) ?_
  refine r_if_eq (tgt := 88) rfl rfl (fun qc1 => ?_) (fun qc1 => ?_)
  · replace hf := xi_pos hf qc1
    refine XS.go (XS.lcl (L3 := [some (.ref 1262), some (.int x1), some (.int (x2 + 1)), some (.int x3), none]) (s_inc rfl rfl (Nat.le_of_ble_eq_true rfl)) rfl) ?_
    refine XS.go (s_goto (tgt := 2) rfl rfl) ?_
    exact XR.forget (L2 := [some (.ref 1262), some (.int x1), some (.int (x2 + 1)), none, none]) ⟨rfl, ⟨rfl, ⟨rfl, trivial⟩⟩⟩ (hK2 x1 (x2 + 1) _ L0 hf)
  · replace hf := xi_neg hf qc1
    refine XS.go (s_aloadn rfl rfl rfl) ?_
    refine XS.go (s_getr rfl xf12_134 (LY.lt L0 (by decide)) (LY.k1262 L0) (by decide) rfl (LY.r1262_65 L0)) ?_
    refine XS.go (s_iloadn rfl rfl rfl) ?_
    replace hf := xi_none hf
    obtain ⟨qk2, hf⟩ := hf
    refine XS.go (s_ialde rfl (LY.lt L0 (by decide)) (LY.k1304 L0) (inLit (LY.n1304 L0) qk2.1 qk2.2 (by decide)) rfl) ?_
    cases hf
    exact XR.reti rfl rfl (fun hret => ⟨_, hret, ⟨rfl, rfl⟩, L0⟩)
def b_m_known_70 (K2 : Int32 → Int32 → XH → Option (Int32 × XH)) (K29 : Int32 → Int32 → Int32 → Int32 → XH → Option (Int32 × XH)) (x1 : Int32) (x2 : Int32) (x4 : Int32) (y0 : Int32) (h : XH) : Option (Int32 × XH) := (K29 x1 x2 y0 (x4 + 1) h)
set_option maxRecDepth 20000 in
theorem kb_m_known_70 {l : Launch} {G : XG} {d : Nat} {K2 : Int32 → Int32 → XH → Option (Int32 × XH)} {K29 : Int32 → Int32 → Int32 → Int32 → XH → Option (Int32 × XH)} {x1 : Int32} {x2 : Int32} {x4 : Int32} {y0 : Int32} {h : XH} {r : Int32 × XH} (hK2 : ∀ (x1 : Int32) (x2 : Int32) (h : XH), LY h → K2 x1 x2 h = some r → XR l G xEX12_known d (2, [some (.ref 1262), some (.int x1), some (.int x2), none, none], [], h) (fun C => ∃ v, xRet xEX12_known C v ∧ (C.2.2.2 = r.2 ∧ v = some (.int r.1)) ∧ LY r.2)) (hK29 : ∀ (x1 : Int32) (x2 : Int32) (x3 : Int32) (x4 : Int32) (h : XH), LY h → K29 x1 x2 x3 x4 h = some r → XR l G xEX12_known d (29, [some (.ref 1262), some (.int x1), some (.int x2), some (.int x3), some (.int x4)], [], h) (fun C => ∃ v, xRet xEX12_known C v ∧ (C.2.2.2 = r.2 ∧ v = some (.int r.1)) ∧ LY r.2)) (L0 : LY h) (hf : b_m_known_70 K2 K29 x1 x2 x4 y0 h = some r) : XR l G xEX12_known d (70, [some (.ref 1262), some (.int x1), some (.int x2), none, some (.int x4)], [(.int y0)], h) (fun C => ∃ v, xRet xEX12_known C v ∧ (C.2.2.2 = r.2 ∧ v = some (.int r.1)) ∧ LY r.2) := by
  unfold b_m_known_70 at hf
  refine XS.go (XS.lcl (L3 := [some (.ref 1262), some (.int x1), some (.int x2), some (.int y0), some (.int x4)]) (s_istoren rfl rfl (Nat.le_of_ble_eq_true rfl)) rfl) ?_
  refine XS.go (XS.lcl (L3 := [some (.ref 1262), some (.int x1), some (.int x2), some (.int y0), some (.int (x4 + 1))]) (s_inc rfl rfl (Nat.le_of_ble_eq_true rfl)) rfl) ?_
  refine XS.go (s_goto (tgt := 29) rfl rfl) ?_
  exact XR.forget (L2 := [some (.ref 1262), some (.int x1), some (.int x2), some (.int y0), some (.int (x4 + 1))]) ⟨rfl, ⟨rfl, ⟨rfl, ⟨rfl, ⟨rfl, trivial⟩⟩⟩⟩⟩ (hK29 x1 x2 y0 (x4 + 1) _ L0 hf)
def s_m_known_29 (K2 : Int32 → Int32 → XH → Option (Int32 × XH)) (K29 : Int32 → Int32 → Int32 → Int32 → XH → Option (Int32 × XH)) (x1 : Int32) (x2 : Int32) (x3 : Int32) (x4 : Int32) (h : XH) : Option (Int32 × XH) := (if x1 ≤ x4 then (b_m_known_77 K2 x1 x2 x3 h) else (if x3 = 0 then (b_m_known_77 K2 x1 x2 x3 h) else (if 0 ≤ x2 ∧ x2 < nI 300 then (if 0 ≤ (((hi h 1304 (Int32.toNatClampNeg x2)) - 1) - x4) ∧ (((hi h 1304 (Int32.toNatClampNeg x2)) - 1) - x4) < nI 4300 then (if 0 ≤ x4 ∧ x4 < nI 68 then (if ¬ (hi h 1299 (Int32.toNatClampNeg (((hi h 1304 (Int32.toNatClampNeg x2)) - 1) - x4))) = (hi h 1309 (Int32.toNatClampNeg x4)) then (b_m_known_70 K2 K29 x1 x2 x4 0 h) else (b_m_known_70 K2 K29 x1 x2 x4 1 h)) else none) else none) else none)))
set_option maxRecDepth 20000 in
theorem ks_m_known_29 {l : Launch} {G : XG} {d : Nat} {K2 : Int32 → Int32 → XH → Option (Int32 × XH)} {K29 : Int32 → Int32 → Int32 → Int32 → XH → Option (Int32 × XH)} {x1 : Int32} {x2 : Int32} {x3 : Int32} {x4 : Int32} {h : XH} {r : Int32 × XH} (hK2 : ∀ (x1 : Int32) (x2 : Int32) (h : XH), LY h → K2 x1 x2 h = some r → XR l G xEX12_known d (2, [some (.ref 1262), some (.int x1), some (.int x2), none, none], [], h) (fun C => ∃ v, xRet xEX12_known C v ∧ (C.2.2.2 = r.2 ∧ v = some (.int r.1)) ∧ LY r.2)) (hK29 : ∀ (x1 : Int32) (x2 : Int32) (x3 : Int32) (x4 : Int32) (h : XH), LY h → K29 x1 x2 x3 x4 h = some r → XR l G xEX12_known d (29, [some (.ref 1262), some (.int x1), some (.int x2), some (.int x3), some (.int x4)], [], h) (fun C => ∃ v, xRet xEX12_known C v ∧ (C.2.2.2 = r.2 ∧ v = some (.int r.1)) ∧ LY r.2)) (L0 : LY h) (hf : s_m_known_29 K2 K29 x1 x2 x3 x4 h = some r) : XR l G xEX12_known d (29, [some (.ref 1262), some (.int x1), some (.int x2), some (.int x3), some (.int x4)], [], h) (fun C => ∃ v, xRet xEX12_known C v ∧ (C.2.2.2 = r.2 ∧ v = some (.int r.1)) ∧ LY r.2) := by
  unfold s_m_known_29 at hf
  refine XS.go (s_iload rfl rfl) ?_
  refine XS.go (s_iloadn rfl rfl rfl) ?_
  refine r_icmp_ge (tgt := 77) rfl rfl (fun qc3 => ?_) (fun qc3 => ?_)
  · replace hf := xi_pos hf qc3
    exact XR.forget (L2 := [some (.ref 1262), some (.int x1), some (.int x2), some (.int x3), none]) ⟨rfl, ⟨rfl, ⟨rfl, ⟨rfl, trivial⟩⟩⟩⟩ (kb_m_known_77 hK2 L0 hf)
  · replace hf := xi_neg hf qc3
    refine XS.go (s_iloadn rfl rfl rfl) ?_
    refine r_if_eq (tgt := 77) rfl rfl (fun qc4 => ?_) (fun qc4 => ?_)
    · replace hf := xi_pos hf qc4
      exact XR.forget (L2 := [some (.ref 1262), some (.int x1), some (.int x2), some (.int x3), none]) ⟨rfl, ⟨rfl, ⟨rfl, ⟨rfl, trivial⟩⟩⟩⟩ (kb_m_known_77 hK2 L0 hf)
    · replace hf := xi_neg hf qc4
      refine XS.go (s_aloadn rfl rfl rfl) ?_
      refine XS.go (s_getr rfl xf12_119 (LY.lt L0 (by decide)) (LY.k1262 L0) (by decide) rfl (LY.r1262_56 L0)) ?_
      refine XS.go (s_aloadn rfl rfl rfl) ?_
      refine XS.go (s_getr rfl xf12_134 (LY.lt L0 (by decide)) (LY.k1262 L0) (by decide) rfl (LY.r1262_65 L0)) ?_
      refine XS.go (s_iloadn rfl rfl rfl) ?_
      replace hf := xi_none hf
      obtain ⟨qk5, hf⟩ := hf
      refine XS.go (s_ialde rfl (LY.lt L0 (by decide)) (LY.k1304 L0) (inLit (LY.n1304 L0) qk5.1 qk5.2 (by decide)) rfl) ?_
      refine XS.go (s_iconst (v := 1) rfl rfl) ?_
      refine XS.go (s_isub rfl) ?_
      refine XS.go (s_iload rfl rfl) ?_
      refine XS.go (s_isub rfl) ?_
      replace hf := xi_none hf
      obtain ⟨qk6, hf⟩ := hf
      refine XS.go (s_ialde rfl (LY.lt L0 (by decide)) (LY.k1299 L0) (inLit (LY.n1299 L0) qk6.1 qk6.2 (by decide)) rfl) ?_
      refine XS.go (s_aloadn rfl rfl rfl) ?_
      refine XS.go (s_getr rfl xf12_154 (LY.lt L0 (by decide)) (LY.k1262 L0) (by decide) rfl (LY.r1262_73 L0)) ?_
      refine XS.go (s_iload rfl rfl) ?_
      replace hf := xi_none hf
      obtain ⟨qk7, hf⟩ := hf
      refine XS.go (s_ialde rfl (LY.lt L0 (by decide)) (LY.k1309 L0) (inLit (LY.n1309 L0) qk7.1 qk7.2 (by decide)) rfl) ?_
      refine r_icmp_ne (tgt := 69) rfl rfl (fun qc8 => ?_) (fun qc8 => ?_)
      · replace hf := xi_pos hf qc8
        refine XS.go (s_iconst (v := 0) rfl rfl) ?_
        exact XR.forget (L2 := [some (.ref 1262), some (.int x1), some (.int x2), none, some (.int x4)]) ⟨rfl, ⟨rfl, ⟨rfl, ⟨rfl, trivial⟩⟩⟩⟩ (kb_m_known_70 hK2 hK29 L0 hf)
      · replace hf := xi_neg hf qc8
        refine XS.go (s_iconst (v := 1) rfl rfl) ?_
        refine XS.go (s_goto (tgt := 70) rfl rfl) ?_
        exact XR.forget (L2 := [some (.ref 1262), some (.int x1), some (.int x2), none, some (.int x4)]) ⟨rfl, ⟨rfl, ⟨rfl, ⟨rfl, trivial⟩⟩⟩⟩ (kb_m_known_70 hK2 hK29 L0 hf)
def b_m_known_29 (K2 : Int32 → Int32 → XH → Option (Int32 × XH)) : Nat → Int32 → Int32 → Int32 → Int32 → XH → Option (Int32 × XH)
  | 0, _, _, _, _, _ => none
  | n + 1, x1, x2, x3, x4, h => s_m_known_29 K2 (b_m_known_29 K2 n) x1 x2 x3 x4 h
theorem kb_m_known_29 {l : Launch} {G : XG} {d : Nat} {K2 : Int32 → Int32 → XH → Option (Int32 × XH)} {n : Nat} {x1 : Int32} {x2 : Int32} {x3 : Int32} {x4 : Int32} {h : XH} {r : Int32 × XH} (hK2 : ∀ (x1 : Int32) (x2 : Int32) (h : XH), LY h → K2 x1 x2 h = some r → XR l G xEX12_known d (2, [some (.ref 1262), some (.int x1), some (.int x2), none, none], [], h) (fun C => ∃ v, xRet xEX12_known C v ∧ (C.2.2.2 = r.2 ∧ v = some (.int r.1)) ∧ LY r.2)) (L0 : LY h) (hf : b_m_known_29 K2 n x1 x2 x3 x4 h = some r) : XR l G xEX12_known d (29, [some (.ref 1262), some (.int x1), some (.int x2), some (.int x3), some (.int x4)], [], h) (fun C => ∃ v, xRet xEX12_known C v ∧ (C.2.2.2 = r.2 ∧ v = some (.int r.1)) ∧ LY r.2) := by
  induction n generalizing x1 x2 x3 x4 h with
  | zero => cases hf
  | succ n ih => exact ks_m_known_29 hK2 (fun x1 x2 x3 x4 h L0 hf => ih (h := h) (x1 := x1) (x2 := x2) (x3 := x3) (x4 := x4) L0 hf) L0 hf
def b_m_known_25 (K2 : Int32 → Int32 → XH → Option (Int32 × XH)) (x1 : Int32) (x2 : Int32) (y0 : Int32) (h : XH) : Option (Int32 × XH) := (b_m_known_29 K2 100000 x1 x2 y0 0 h)
set_option maxRecDepth 20000 in
theorem kb_m_known_25 {l : Launch} {G : XG} {d : Nat} {K2 : Int32 → Int32 → XH → Option (Int32 × XH)} {x1 : Int32} {x2 : Int32} {y0 : Int32} {h : XH} {r : Int32 × XH} (hK2 : ∀ (x1 : Int32) (x2 : Int32) (h : XH), LY h → K2 x1 x2 h = some r → XR l G xEX12_known d (2, [some (.ref 1262), some (.int x1), some (.int x2), none, none], [], h) (fun C => ∃ v, xRet xEX12_known C v ∧ (C.2.2.2 = r.2 ∧ v = some (.int r.1)) ∧ LY r.2)) (L0 : LY h) (hf : b_m_known_25 K2 x1 x2 y0 h = some r) : XR l G xEX12_known d (25, [some (.ref 1262), some (.int x1), some (.int x2), none, none], [(.int y0)], h) (fun C => ∃ v, xRet xEX12_known C v ∧ (C.2.2.2 = r.2 ∧ v = some (.int r.1)) ∧ LY r.2) := by
  unfold b_m_known_25 at hf
  refine XS.go (XS.lcl (L3 := [some (.ref 1262), some (.int x1), some (.int x2), some (.int y0), none]) (s_istoren rfl rfl (Nat.le_of_ble_eq_true rfl)) rfl) ?_
  refine XS.go (s_iconst (v := 0) rfl rfl) ?_
  refine XS.go (XS.lcl (L3 := [some (.ref 1262), some (.int x1), some (.int x2), some (.int y0), some (.int 0)]) (s_istore rfl (Nat.le_of_ble_eq_true rfl)) rfl) ?_
  exact XR.forget (L2 := [some (.ref 1262), some (.int x1), some (.int x2), some (.int y0), some (.int 0)]) ⟨rfl, ⟨rfl, ⟨rfl, ⟨rfl, ⟨rfl, trivial⟩⟩⟩⟩⟩ (kb_m_known_29 hK2 L0 hf)
def s_m_known_2 (K2 : Int32 → Int32 → XH → Option (Int32 × XH)) (x1 : Int32) (x2 : Int32) (h : XH) : Option (Int32 × XH) := (if (hi h 1262 64) ≤ x2 then (some (0, h)) else (if 0 ≤ x2 ∧ x2 < nI 300 then (if ¬ (hi h 1305 (Int32.toNatClampNeg x2)) = x1 then (b_m_known_25 K2 x1 x2 0 h) else (b_m_known_25 K2 x1 x2 1 h)) else none))
set_option maxRecDepth 20000 in
theorem ks_m_known_2 {l : Launch} {G : XG} {d : Nat} {K2 : Int32 → Int32 → XH → Option (Int32 × XH)} {x1 : Int32} {x2 : Int32} {h : XH} {r : Int32 × XH} (hK2 : ∀ (x1 : Int32) (x2 : Int32) (h : XH), LY h → K2 x1 x2 h = some r → XR l G xEX12_known d (2, [some (.ref 1262), some (.int x1), some (.int x2), none, none], [], h) (fun C => ∃ v, xRet xEX12_known C v ∧ (C.2.2.2 = r.2 ∧ v = some (.int r.1)) ∧ LY r.2)) (L0 : LY h) (hf : s_m_known_2 K2 x1 x2 h = some r) : XR l G xEX12_known d (2, [some (.ref 1262), some (.int x1), some (.int x2), none, none], [], h) (fun C => ∃ v, xRet xEX12_known C v ∧ (C.2.2.2 = r.2 ∧ v = some (.int r.1)) ∧ LY r.2) := by
  unfold s_m_known_2 at hf
  refine XS.go (s_iloadn rfl rfl rfl) ?_
  refine XS.go (s_aloadn rfl rfl rfl) ?_
  refine XS.go (s_getie rfl xf12_391 (LY.lt L0 (by decide)) (LY.k1262 L0) (by decide) rfl rfl) ?_
  refine r_icmp_ge (tgt := 94) rfl rfl (fun qc9 => ?_) (fun qc9 => ?_)
  · replace hf := xi_pos hf qc9
    refine XS.go (s_iconst (v := 0) rfl rfl) ?_
    cases hf
    exact XR.reti rfl rfl (fun hret => ⟨_, hret, ⟨rfl, rfl⟩, L0⟩)
  · replace hf := xi_neg hf qc9
    refine XS.go (s_aloadn rfl rfl rfl) ?_
    refine XS.go (s_getr rfl xf12_137 (LY.lt L0 (by decide)) (LY.k1262 L0) (by decide) rfl (LY.r1262_66 L0)) ?_
    refine XS.go (s_iloadn rfl rfl rfl) ?_
    replace hf := xi_none hf
    obtain ⟨qk10, hf⟩ := hf
    refine XS.go (s_ialde rfl (LY.lt L0 (by decide)) (LY.k1305 L0) (inLit (LY.n1305 L0) qk10.1 qk10.2 (by decide)) rfl) ?_
    refine XS.go (s_iloadn rfl rfl rfl) ?_
    refine r_icmp_ne (tgt := 24) rfl rfl (fun qc11 => ?_) (fun qc11 => ?_)
    · replace hf := xi_pos hf qc11
      refine XS.go (s_iconst (v := 0) rfl rfl) ?_
      exact XR.forget (L2 := [some (.ref 1262), some (.int x1), some (.int x2), none, none]) ⟨rfl, ⟨rfl, ⟨rfl, trivial⟩⟩⟩ (kb_m_known_25 hK2 L0 hf)
    · replace hf := xi_neg hf qc11
      refine XS.go (s_iconst (v := 1) rfl rfl) ?_
      refine XS.go (s_goto (tgt := 25) rfl rfl) ?_
      exact XR.forget (L2 := [some (.ref 1262), some (.int x1), some (.int x2), none, none]) ⟨rfl, ⟨rfl, ⟨rfl, trivial⟩⟩⟩ (kb_m_known_25 hK2 L0 hf)
def b_m_known_2 : Nat → Int32 → Int32 → XH → Option (Int32 × XH)
  | 0, _, _, _ => none
  | n + 1, x1, x2, h => s_m_known_2 (b_m_known_2 n) x1 x2 h
theorem kb_m_known_2 {l : Launch} {G : XG} {d : Nat} {n : Nat} {x1 : Int32} {x2 : Int32} {h : XH} {r : Int32 × XH} (L0 : LY h) (hf : b_m_known_2 n x1 x2 h = some r) : XR l G xEX12_known d (2, [some (.ref 1262), some (.int x1), some (.int x2), none, none], [], h) (fun C => ∃ v, xRet xEX12_known C v ∧ (C.2.2.2 = r.2 ∧ v = some (.int r.1)) ∧ LY r.2) := by
  induction n generalizing x1 x2 h with
  | zero => cases hf
  | succ n ih => exact ks_m_known_2 (fun x1 x2 h L0 hf => ih (h := h) (x1 := x1) (x2 := x2) L0 hf) L0 hf
def f_m_known (a0 : Int32) (h : XH) : Option (Int32 × XH) := (b_m_known_2 100000 a0 0 h)
set_option maxRecDepth 20000 in
theorem kf_m_known {l : Launch} {G : XG} {d : Nat} {a0 : Int32} {h : XH} {r : Int32 × XH} (L0 : LY h) (hf : f_m_known a0 h = some r) : XC l G xEX12_known d [.ref 1262, .int a0] h (fun v h2 => (h2 = r.2 ∧ v = some (.int r.1)) ∧ LY r.2) := by
  refine XC.virt xvX12_known (Nat.le_of_ble_eq_true rfl) ?_
  unfold f_m_known at hf
  refine XR.norm (L3 := [some (.ref 1262), some (.int a0), none, none, none]) rfl ?_
  refine XS.go (s_iconst (v := 0) rfl rfl) ?_
  refine XS.go (XS.lcl (L3 := [some (.ref 1262), some (.int a0), some (.int 0), none, none]) (s_istoren rfl rfl (Nat.le_of_ble_eq_true rfl)) rfl) ?_
  exact XR.forget (L2 := [some (.ref 1262), some (.int a0), some (.int 0), none, none]) ⟨rfl, ⟨rfl, ⟨rfl, trivial⟩⟩⟩ (kb_m_known_2 L0 hf)
def f_m_two (a0 : Int32) (a1 : Int32) (h : XH) : Option (Unit × XH) := (if 0 ≤ a0 ∧ a0 < nI 68 then (if 0 ≤ (a0 + 1) ∧ (a0 + 1) < nI 68 then (some ((), (hsi (hsi h 1309 (Int32.toNatClampNeg a0) (a1 &&& 255)) 1309 (Int32.toNatClampNeg (a0 + 1)) (a1 >>> (8 &&& 31))))) else none) else none)
set_option maxRecDepth 20000 in
theorem kf_m_two {l : Launch} {G : XG} {d : Nat} {a0 : Int32} {a1 : Int32} {h : XH} {r : Unit × XH} (L0 : LY h) (hf : f_m_two a0 a1 h = some r) : XC l G xEX12_two d [.ref 1262, .int a0, .int a1] h (fun v h2 => (h2 = r.2 ∧ v = none) ∧ LY r.2) := by
  refine XC.virt xvX12_two (Nat.le_of_ble_eq_true rfl) ?_
  unfold f_m_two at hf
  refine XR.norm (L3 := [some (.ref 1262), some (.int a0), some (.int a1)]) rfl ?_
  refine XS.go (s_aloadn rfl rfl rfl) ?_
  refine XS.go (s_getr rfl xf12_154 (LY.lt L0 (by decide)) (LY.k1262 L0) (by decide) rfl (LY.r1262_73 L0)) ?_
  refine XS.go (s_iloadn rfl rfl rfl) ?_
  refine XS.go (s_iloadn rfl rfl rfl) ?_
  refine XS.go (s_sipush (v := 255) rfl rfl) ?_
  refine XS.go (s_iand rfl) ?_
  replace hf := xi_none hf
  obtain ⟨qk1, hf⟩ := hf
  refine XS.go (s_iast rfl (LY.lt L0 (by decide)) (LY.k1309 L0) (inLit (LY.n1309 L0) qk1.1 qk1.2 (by decide))) ?_
  refine XS.go (s_aloadn rfl rfl rfl) ?_
  refine XS.go (s_getr rfl xf12_154 (LY.lt (by simp only [LY_si, LY_sj]; exact L0) (by decide)) (LY.k1262 (by simp only [LY_si, LY_sj]; exact L0)) (by decide) rfl (LY.r1262_73 (by simp only [LY_si, LY_sj]; exact L0))) ?_
  refine XS.go (s_iloadn rfl rfl rfl) ?_
  refine XS.go (s_iconst (v := 1) rfl rfl) ?_
  refine XS.go (s_iadd rfl) ?_
  refine XS.go (s_iloadn rfl rfl rfl) ?_
  refine XS.go (s_bipush (v := 8) rfl rfl) ?_
  refine XS.go (s_ishr rfl) ?_
  replace hf := xi_none hf
  obtain ⟨qk2, hf⟩ := hf
  refine XS.go (s_iast rfl (LY.lt (by simp only [LY_si, LY_sj]; exact L0) (by decide)) (LY.k1309 (by simp only [LY_si, LY_sj]; exact L0)) (inLit (LY.n1309 (by simp only [LY_si, LY_sj]; exact L0)) qk2.1 qk2.2 (by decide))) ?_
  cases hf
  exact XR.retv rfl rfl (fun hret => ⟨_, hret, ⟨rfl, rfl⟩, (by simp only [LY_si, LY_sj]; exact L0)⟩)
def b_m_ready_312 (x6 : Int32) (h : XH) : Option (Int32 × XH) := (some (x6, (hsi h 1262 67 (-1))))
set_option maxRecDepth 20000 in
theorem kb_m_ready_312 {l : Launch} {G : XG} {d : Nat} {x6 : Int32} {h : XH} {r : Int32 × XH} (L0 : LY h) (hf : b_m_ready_312 x6 h = some r) : XR l G xEX12_ready (d + 1) (312, [some (.ref 1262), none, none, none, none, none, some (.int x6), none], [], h) (fun C => ∃ v, xRet xEX12_ready C v ∧ (C.2.2.2 = r.2 ∧ v = some (.int r.1)) ∧ LY r.2) := by
  unfold b_m_ready_312 at hf
  refine XS.go (s_aloadn rfl rfl rfl) ?_
  refine XS.go (s_iconst (v := (-1)) rfl rfl) ?_
  refine XS.go (s_puti rfl xf12_140 (LY.lt L0 (by decide)) (LY.k1262 L0) (by decide) rfl (Or.inl rfl)) ?_
  refine XS.go (s_iload rfl rfl) ?_
  cases hf
  exact XR.reti rfl rfl (fun hret => ⟨_, hret, ⟨rfl, rfl⟩, (by simp only [LY_si, LY_sj]; exact L0)⟩)
def s_m_ready_255 (K255 : Int32 → Int32 → Int32 → XH → Option (Int32 × XH)) (x3 : Int32) (x6 : Int32) (x7 : Int32) (h : XH) : Option (Int32 × XH) := (if x7 < 0 then (if 0 ≤ (hi h 1262 64) ∧ (hi h 1262 64) < nI 300 then (b_m_ready_312 x6 (hsi (hsi (hsi h 1304 (Int32.toNatClampNeg (hi h 1262 64)) (hi h 1262 57)) 1305 (Int32.toNatClampNeg (hi h 1262 64)) x3) 1262 64 ((hi h 1262 64) + 1))) else none) else (if 0 ≤ x7 ∧ x7 < nI 68 then (Option.bind (f_m_ahead (Int32.toInt64 (hi h 1309 (Int32.toNatClampNeg x7))) 1 h) fun r4 => (K255 x3 x6 (x7 + (-1)) r4.2)) else none))
set_option maxRecDepth 20000 in
theorem ks_m_ready_255 {l : Launch} {G : XG} {d : Nat} {K255 : Int32 → Int32 → Int32 → XH → Option (Int32 × XH)} {x3 : Int32} {x6 : Int32} {x7 : Int32} {h : XH} {r : Int32 × XH} (hK255 : ∀ (x3 : Int32) (x6 : Int32) (x7 : Int32) (h : XH), LY h → K255 x3 x6 x7 h = some r → XR l G xEX12_ready (d + 1) (255, [some (.ref 1262), none, none, some (.int x3), none, none, some (.int x6), some (.int x7)], [], h) (fun C => ∃ v, xRet xEX12_ready C v ∧ (C.2.2.2 = r.2 ∧ v = some (.int r.1)) ∧ LY r.2)) (L0 : LY h) (hf : s_m_ready_255 K255 x3 x6 x7 h = some r) : XR l G xEX12_ready (d + 1) (255, [some (.ref 1262), none, none, some (.int x3), none, none, some (.int x6), some (.int x7)], [], h) (fun C => ∃ v, xRet xEX12_ready C v ∧ (C.2.2.2 = r.2 ∧ v = some (.int r.1)) ∧ LY r.2) := by
  unfold s_m_ready_255 at hf
  refine XS.go (s_iload rfl rfl) ?_
  refine r_if_lt (tgt := 279) rfl rfl (fun qc1 => ?_) (fun qc1 => ?_)
  · replace hf := xi_pos hf qc1
    refine XS.go (s_aloadn rfl rfl rfl) ?_
    refine XS.go (s_getr rfl xf12_134 (LY.lt L0 (by decide)) (LY.k1262 L0) (by decide) rfl (LY.r1262_65 L0)) ?_
    refine XS.go (s_aloadn rfl rfl rfl) ?_
    refine XS.go (s_getie rfl xf12_391 (LY.lt L0 (by decide)) (LY.k1262 L0) (by decide) rfl rfl) ?_
    refine XS.go (s_aloadn rfl rfl rfl) ?_
    refine XS.go (s_getie rfl xf12_382 (LY.lt L0 (by decide)) (LY.k1262 L0) (by decide) rfl rfl) ?_
    replace hf := xi_none hf
    obtain ⟨qk2, hf⟩ := hf
    refine XS.go (s_iast rfl (LY.lt L0 (by decide)) (LY.k1304 L0) (inLit (LY.n1304 L0) qk2.1 qk2.2 (by decide))) ?_
    refine XS.go (s_aloadn rfl rfl rfl) ?_
    refine XS.go (s_getr rfl xf12_137 (LY.lt (by simp only [LY_si, LY_sj]; exact L0) (by decide)) (LY.k1262 (by simp only [LY_si, LY_sj]; exact L0)) (by decide) rfl (LY.r1262_66 (by simp only [LY_si, LY_sj]; exact L0))) ?_
    refine XS.go (s_aloadn rfl rfl rfl) ?_
    refine XS.go (s_getie rfl xf12_391 (LY.lt (by simp only [LY_si, LY_sj]; exact L0) (by decide)) (LY.k1262 (by simp only [LY_si, LY_sj]; exact L0)) (by decide) rfl (hi_hsi_na (by decide))) ?_
    refine XS.go (s_iloadn rfl rfl rfl) ?_
    refine XS.go (s_iast rfl (LY.lt (by simp only [LY_si, LY_sj]; exact L0) (by decide)) (LY.k1305 (by simp only [LY_si, LY_sj]; exact L0)) (inLit (LY.n1305 (by simp only [LY_si, LY_sj]; exact L0)) qk2.1 qk2.2 (by decide))) ?_
    refine XS.go (s_aloadn rfl rfl rfl) ?_
    refine XS.go (s_dup rfl rfl) ?_
    refine XS.go (s_getie rfl xf12_391 (LY.lt (by simp only [LY_si, LY_sj]; exact L0) (by decide)) (LY.k1262 (by simp only [LY_si, LY_sj]; exact L0)) (by decide) rfl ((hi_hsi_na (by decide)).trans (hi_hsi_na (by decide)))) ?_
    refine XS.go (s_iconst (v := 1) rfl rfl) ?_
    refine XS.go (s_iadd rfl) ?_
    refine XS.go (s_puti rfl xf12_391 (LY.lt (by simp only [LY_si, LY_sj]; exact L0) (by decide)) (LY.k1262 (by simp only [LY_si, LY_sj]; exact L0)) (by decide) rfl (Or.inl rfl)) ?_
    exact XR.forget (L2 := [some (.ref 1262), none, none, none, none, none, some (.int x6), none]) ⟨rfl, ⟨rfl, trivial⟩⟩ (kb_m_ready_312 (by simp only [LY_si, LY_sj]; exact L0) hf)
  · replace hf := xi_neg hf qc1
    refine XS.go (s_aloadn rfl rfl rfl) ?_
    refine XS.go (s_aloadn rfl rfl rfl) ?_
    refine XS.go (s_getr rfl xf12_154 (LY.lt L0 (by decide)) (LY.k1262 L0) (by decide) rfl (LY.r1262_73 L0)) ?_
    refine XS.go (s_iload rfl rfl) ?_
    replace hf := xi_none hf
    obtain ⟨qk3, hf⟩ := hf
    refine XS.go (s_ialde rfl (LY.lt L0 (by decide)) (LY.k1309 L0) (inLit (LY.n1309 L0) qk3.1 qk3.2 (by decide)) rfl) ?_
    refine XS.go (s_i2l rfl) ?_
    refine XS.go (s_iconst (v := 1) rfl rfl) ?_
    replace hf := xb_some hf
    obtain ⟨r4, e5, hf⟩ := hf
    refine r_callv rfl xvX12_ahead xm12_396 (kf_m_ahead (d := d) L0 e5) (LY.lt L0 (by decide)) (LY.k1262 L0) (by decide) rfl rfl (dl0 (by decide)) (by decide) (Nat.le_of_ble_eq_true rfl) ?_
    rintro _ _ ⟨⟨rfl, rfl⟩, L6⟩
    refine XS.go (XS.lcl (L3 := [some (.ref 1262), none, none, some (.int x3), none, none, some (.int x6), some (.int (x7 + (-1)))]) (s_dec rfl rfl (Nat.le_of_ble_eq_true rfl)) rfl) ?_
    refine XS.go (s_goto (tgt := 255) rfl rfl) ?_
    exact XR.forget (L2 := [some (.ref 1262), none, none, some (.int x3), none, none, some (.int x6), some (.int (x7 + (-1)))]) ⟨rfl, ⟨rfl, ⟨rfl, ⟨rfl, trivial⟩⟩⟩⟩ (hK255 x3 x6 (x7 + (-1)) _ L6 hf)
def b_m_ready_255 : Nat → Int32 → Int32 → Int32 → XH → Option (Int32 × XH)
  | 0, _, _, _, _ => none
  | n + 1, x3, x6, x7, h => s_m_ready_255 (b_m_ready_255 n) x3 x6 x7 h
theorem kb_m_ready_255 {l : Launch} {G : XG} {d : Nat} {n : Nat} {x3 : Int32} {x6 : Int32} {x7 : Int32} {h : XH} {r : Int32 × XH} (L0 : LY h) (hf : b_m_ready_255 n x3 x6 x7 h = some r) : XR l G xEX12_ready (d + 1) (255, [some (.ref 1262), none, none, some (.int x3), none, none, some (.int x6), some (.int x7)], [], h) (fun C => ∃ v, xRet xEX12_ready C v ∧ (C.2.2.2 = r.2 ∧ v = some (.int r.1)) ∧ LY r.2) := by
  induction n generalizing x3 x6 x7 h with
  | zero => cases hf
  | succ n ih => exact ks_m_ready_255 (fun x3 x6 x7 h L0 hf => ih (h := h) (x3 := x3) (x6 := x6) (x7 := x7) L0 hf) L0 hf
def b_m_ready_220 (x2 : Int32) (x3 : Int32) (x4 : Int32) (x5 : Int32) (y1 : Int32) (h : XH) : Option (Int32 × XH) := (Option.bind (f_m_ahead (Int32.toInt64 (y1 - x2)) 4 h) fun r7 => (Option.bind (f_m_thing 3 (-1) (hi r7.2 1262 67) r7.2) fun r10 => (if ¬ x4 = 0 then (b_m_ready_312 r10.1 r10.2) else (Option.bind (f_m_zeros x5 r10.2) fun r14 => (b_m_ready_255 100000 x3 r10.1 (x3 - 1) r14.2)))))
set_option maxRecDepth 20000 in
theorem kb_m_ready_220 {l : Launch} {G : XG} {d : Nat} {x2 : Int32} {x3 : Int32} {x4 : Int32} {x5 : Int32} {y1 : Int32} {h : XH} {r : Int32 × XH} (L0 : LY h) (hf : b_m_ready_220 x2 x3 x4 x5 y1 h = some r) : XR l G xEX12_ready (d + 1) (220, [some (.ref 1262), none, some (.int x2), some (.int x3), some (.int x4), some (.int x5), none, none], [(.int y1), (.ref 1262)], h) (fun C => ∃ v, xRet xEX12_ready C v ∧ (C.2.2.2 = r.2 ∧ v = some (.int r.1)) ∧ LY r.2) := by
  unfold b_m_ready_220 at hf
  refine XS.go (s_iloadn rfl rfl rfl) ?_
  refine XS.go (s_isub rfl) ?_
  refine XS.go (s_i2l rfl) ?_
  refine XS.go (s_iconst (v := 4) rfl rfl) ?_
  replace hf := xb_some hf
  obtain ⟨r7, e8, hf⟩ := hf
  refine r_callv rfl xvX12_ahead xm12_396 (kf_m_ahead (d := d) L0 e8) (LY.lt L0 (by decide)) (LY.k1262 L0) (by decide) rfl rfl (dl0 (by decide)) (by decide) (Nat.le_of_ble_eq_true rfl) ?_
  rintro _ _ ⟨⟨rfl, rfl⟩, L9⟩
  refine XS.go (s_aloadn rfl rfl rfl) ?_
  refine XS.go (s_iconst (v := 3) rfl rfl) ?_
  refine XS.go (s_iconst (v := (-1)) rfl rfl) ?_
  refine XS.go (s_aloadn rfl rfl rfl) ?_
  refine XS.go (s_getie rfl xf12_140 (LY.lt L9 (by decide)) (LY.k1262 L9) (by decide) rfl rfl) ?_
  replace hf := xb_some hf
  obtain ⟨r10, e11, hf⟩ := hf
  refine r_callv rfl xvX12_thing xm12_410 (kf_m_thing (d := d) L9 e11) (LY.lt L9 (by decide)) (LY.k1262 L9) (by decide) rfl rfl (dl0 (by decide)) (by decide) (Nat.le_of_ble_eq_true rfl) ?_
  rintro _ _ ⟨⟨rfl, rfl⟩, L12⟩
  refine XS.go (XS.lcl (L3 := [some (.ref 1262), none, some (.int x2), some (.int x3), some (.int x4), some (.int x5), some (.int r10.1), none]) (s_istore rfl (Nat.le_of_ble_eq_true rfl)) rfl) ?_
  refine XS.go (s_iload rfl rfl) ?_
  refine r_if_ne (tgt := 312) rfl rfl (fun qc13 => ?_) (fun qc13 => ?_)
  · replace hf := xi_pos hf qc13
    exact XR.forget (L2 := [some (.ref 1262), none, none, none, none, none, some (.int r10.1), none]) ⟨rfl, ⟨rfl, trivial⟩⟩ (kb_m_ready_312 L12 hf)
  · replace hf := xi_neg hf qc13
    refine XS.go (s_aloadn rfl rfl rfl) ?_
    refine XS.go (s_iload rfl rfl) ?_
    replace hf := xb_some hf
    obtain ⟨r14, e15, hf⟩ := hf
    refine r_callv rfl xvX12_zeros xm12_407 (kf_m_zeros (d := d) L12 e15) (LY.lt L12 (by decide)) (LY.k1262 L12) (by decide) rfl rfl (dl0 (by decide)) (by decide) (Nat.le_of_ble_eq_true rfl) ?_
    rintro _ _ ⟨⟨rfl, rfl⟩, L16⟩
    refine XS.go (s_iloadn rfl rfl rfl) ?_
    refine XS.go (s_iconst (v := 1) rfl rfl) ?_
    refine XS.go (s_isub rfl) ?_
    refine XS.go (XS.lcl (L3 := [some (.ref 1262), none, some (.int x2), some (.int x3), some (.int x4), some (.int x5), some (.int r10.1), some (.int (x3 - 1))]) (s_istore rfl (Nat.le_of_ble_eq_true rfl)) rfl) ?_
    exact XR.forget (L2 := [some (.ref 1262), none, none, some (.int x3), none, none, some (.int r10.1), some (.int (x3 - 1))]) ⟨rfl, ⟨rfl, ⟨rfl, ⟨rfl, trivial⟩⟩⟩⟩ (kb_m_ready_255 L16 hf)
def b_m_ready_191 (h : XH) : Option (Int32 × XH) := (some (0, (hsi h 1262 0 2)))
set_option maxRecDepth 20000 in
theorem kb_m_ready_191 {l : Launch} {G : XG} {d : Nat} {h : XH} {r : Int32 × XH} (L0 : LY h) (hf : b_m_ready_191 h = some r) : XR l G xEX12_ready (d + 1) (191, [some (.ref 1262), none, none, none, none, none, none, none], [], h) (fun C => ∃ v, xRet xEX12_ready C v ∧ (C.2.2.2 = r.2 ∧ v = some (.int r.1)) ∧ LY r.2) := by
  unfold b_m_ready_191 at hf
  refine XS.go (s_aloadn rfl rfl rfl) ?_
  refine XS.go (s_iconst (v := 2) rfl rfl) ?_
  refine XS.go (s_puti rfl xf12_175 (LY.lt L0 (by decide)) (LY.k1262 L0) (by decide) rfl (Or.inl rfl)) ?_
  refine XS.go (s_iconst (v := 0) rfl rfl) ?_
  cases hf
  exact XR.reti rfl rfl (fun hret => ⟨_, hret, ⟨rfl, rfl⟩, (by simp only [LY_si, LY_sj]; exact L0)⟩)
def b_m_ready_185 (x1 : Int32) (x2 : Int32) (x3 : Int32) (x4 : Int32) (x5 : Int32) (y0 : Int32) (h : XH) : Option (Int32 × XH) := (if y0 ≤ 4000 then (Option.bind (f_m_zeros x1 h) fun r18 => (if ¬ x4 = 0 then (b_m_ready_220 x2 x3 x4 x5 x4 r18.2) else (b_m_ready_220 x2 x3 x4 x5 ((x2 + x5) + x3) r18.2))) else (b_m_ready_191 h))
set_option maxRecDepth 20000 in
theorem kb_m_ready_185 {l : Launch} {G : XG} {d : Nat} {x1 : Int32} {x2 : Int32} {x3 : Int32} {x4 : Int32} {x5 : Int32} {y0 : Int32} {h : XH} {r : Int32 × XH} (L0 : LY h) (hf : b_m_ready_185 x1 x2 x3 x4 x5 y0 h = some r) : XR l G xEX12_ready (d + 1) (185, [some (.ref 1262), some (.int x1), some (.int x2), some (.int x3), some (.int x4), some (.int x5), none, none], [(.int y0)], h) (fun C => ∃ v, xRet xEX12_ready C v ∧ (C.2.2.2 = r.2 ∧ v = some (.int r.1)) ∧ LY r.2) := by
  unfold b_m_ready_185 at hf
  refine XS.go (s_sipush (v := 4000) rfl rfl) ?_
  refine r_icmp_le (tgt := 198) rfl rfl (fun qc17 => ?_) (fun qc17 => ?_)
  · replace hf := xi_pos hf qc17
    refine XS.go (s_aloadn rfl rfl rfl) ?_
    refine XS.go (s_iloadn rfl rfl rfl) ?_
    replace hf := xb_some hf
    obtain ⟨r18, e19, hf⟩ := hf
    refine r_callv rfl xvX12_zeros xm12_407 (kf_m_zeros (d := d) L0 e19) (LY.lt L0 (by decide)) (LY.k1262 L0) (by decide) rfl rfl (dl0 (by decide)) (by decide) (Nat.le_of_ble_eq_true rfl) ?_
    rintro _ _ ⟨⟨rfl, rfl⟩, L20⟩
    refine XS.go (s_aloadn rfl rfl rfl) ?_
    refine XS.go (s_iload rfl rfl) ?_
    refine r_if_ne (tgt := 218) rfl rfl (fun qc21 => ?_) (fun qc21 => ?_)
    · replace hf := xi_pos hf qc21
      refine XS.go (s_iload rfl rfl) ?_
      exact XR.forget (L2 := [some (.ref 1262), none, some (.int x2), some (.int x3), some (.int x4), some (.int x5), none, none]) ⟨rfl, ⟨rfl, ⟨rfl, ⟨rfl, ⟨rfl, trivial⟩⟩⟩⟩⟩ (kb_m_ready_220 L20 hf)
    · replace hf := xi_neg hf qc21
      refine XS.go (s_iloadn rfl rfl rfl) ?_
      refine XS.go (s_iload rfl rfl) ?_
      refine XS.go (s_iadd rfl) ?_
      refine XS.go (s_iloadn rfl rfl rfl) ?_
      refine XS.go (s_iadd rfl) ?_
      refine XS.go (s_goto (tgt := 220) rfl rfl) ?_
      exact XR.forget (L2 := [some (.ref 1262), none, some (.int x2), some (.int x3), some (.int x4), some (.int x5), none, none]) ⟨rfl, ⟨rfl, ⟨rfl, ⟨rfl, ⟨rfl, trivial⟩⟩⟩⟩⟩ (kb_m_ready_220 L20 hf)
  · replace hf := xi_neg hf qc17
    exact XR.forget (L2 := [some (.ref 1262), none, none, none, none, none, none, none]) ⟨rfl, trivial⟩ (kb_m_ready_191 L0 hf)
def b_m_ready_120 (K52 : Int32 → Int32 → Int32 → Int32 → XH → Option (Int32 × XH)) (x1 : Int32) (x2 : Int32) (x4 : Int32) (y0 : Int32) (h : XH) : Option (Int32 × XH) := (K52 x1 x2 y0 (x4 + 1) h)
set_option maxRecDepth 20000 in
theorem kb_m_ready_120 {l : Launch} {G : XG} {d : Nat} {K52 : Int32 → Int32 → Int32 → Int32 → XH → Option (Int32 × XH)} {x1 : Int32} {x2 : Int32} {x4 : Int32} {y0 : Int32} {h : XH} {r : Int32 × XH} (hK52 : ∀ (x1 : Int32) (x2 : Int32) (x3 : Int32) (x4 : Int32) (h : XH), LY h → K52 x1 x2 x3 x4 h = some r → XR l G xEX12_ready (d + 1) (52, [some (.ref 1262), some (.int x1), some (.int x2), some (.int x3), some (.int x4), none, none, none], [], h) (fun C => ∃ v, xRet xEX12_ready C v ∧ (C.2.2.2 = r.2 ∧ v = some (.int r.1)) ∧ LY r.2)) (L0 : LY h) (hf : b_m_ready_120 K52 x1 x2 x4 y0 h = some r) : XR l G xEX12_ready (d + 1) (120, [some (.ref 1262), some (.int x1), some (.int x2), none, some (.int x4), none, none, none], [(.int y0)], h) (fun C => ∃ v, xRet xEX12_ready C v ∧ (C.2.2.2 = r.2 ∧ v = some (.int r.1)) ∧ LY r.2) := by
  unfold b_m_ready_120 at hf
  refine XS.go (XS.lcl (L3 := [some (.ref 1262), some (.int x1), some (.int x2), some (.int y0), some (.int x4), none, none, none]) (s_istoren rfl rfl (Nat.le_of_ble_eq_true rfl)) rfl) ?_
  refine XS.go (XS.lcl (L3 := [some (.ref 1262), some (.int x1), some (.int x2), some (.int y0), some (.int (x4 + 1)), none, none, none]) (s_inc rfl rfl (Nat.le_of_ble_eq_true rfl)) rfl) ?_
  refine XS.go (s_goto (tgt := 52) rfl rfl) ?_
  exact XR.forget (L2 := [some (.ref 1262), some (.int x1), some (.int x2), some (.int y0), some (.int (x4 + 1)), none, none, none]) ⟨rfl, ⟨rfl, ⟨rfl, ⟨rfl, ⟨rfl, trivial⟩⟩⟩⟩⟩ (hK52 x1 x2 y0 (x4 + 1) _ L0 hf)
def b_m_ready_96 (K52 : Int32 → Int32 → Int32 → Int32 → XH → Option (Int32 × XH)) (x1 : Int32) (x2 : Int32) (x3 : Int32) (x4 : Int32) (y1 : Int32) (y2 : Int32) (h : XH) : Option (Int32 × XH) := (Option.bind (f_m_two y1 y2 h) fun r22 => (if 0 ≤ x4 ∧ x4 < nI 32 then (if ¬ (hi r22.2 1307 (Int32.toNatClampNeg x4)) = 0 then (b_m_ready_120 K52 x1 x2 x4 (6 + (2 * x4)) r22.2) else (b_m_ready_120 K52 x1 x2 x4 x3 r22.2)) else none))
set_option maxRecDepth 20000 in
theorem kb_m_ready_96 {l : Launch} {G : XG} {d : Nat} {K52 : Int32 → Int32 → Int32 → Int32 → XH → Option (Int32 × XH)} {x1 : Int32} {x2 : Int32} {x3 : Int32} {x4 : Int32} {y1 : Int32} {y2 : Int32} {h : XH} {r : Int32 × XH} (hK52 : ∀ (x1 : Int32) (x2 : Int32) (x3 : Int32) (x4 : Int32) (h : XH), LY h → K52 x1 x2 x3 x4 h = some r → XR l G xEX12_ready (d + 1) (52, [some (.ref 1262), some (.int x1), some (.int x2), some (.int x3), some (.int x4), none, none, none], [], h) (fun C => ∃ v, xRet xEX12_ready C v ∧ (C.2.2.2 = r.2 ∧ v = some (.int r.1)) ∧ LY r.2)) (L0 : LY h) (hf : b_m_ready_96 K52 x1 x2 x3 x4 y1 y2 h = some r) : XR l G xEX12_ready (d + 1) (96, [some (.ref 1262), some (.int x1), some (.int x2), some (.int x3), some (.int x4), none, none, none], [(.int y2), (.int y1), (.ref 1262)], h) (fun C => ∃ v, xRet xEX12_ready C v ∧ (C.2.2.2 = r.2 ∧ v = some (.int r.1)) ∧ LY r.2) := by
  unfold b_m_ready_96 at hf
  replace hf := xb_some hf
  obtain ⟨r22, e23, hf⟩ := hf
  refine r_callv rfl xvX12_two xm12_435 (kf_m_two (d := d) L0 e23) (LY.lt L0 (by decide)) (LY.k1262 L0) (by decide) rfl rfl (dl0 (by decide)) (by decide) (Nat.le_of_ble_eq_true rfl) ?_
  rintro _ _ ⟨⟨rfl, rfl⟩, L24⟩
  refine XS.go (s_aloadn rfl rfl rfl) ?_
  refine XS.go (s_getr rfl xf12_148 (LY.lt L24 (by decide)) (LY.k1262 L24) (by decide) rfl (LY.r1262_70 L24)) ?_
  refine XS.go (s_iload rfl rfl) ?_
  replace hf := xi_none hf
  obtain ⟨qk25, hf⟩ := hf
  refine XS.go (s_ialde rfl (LY.lt L24 (by decide)) (LY.k1307 L24) (inLit (LY.n1307 L24) qk25.1 qk25.2 (by decide)) rfl) ?_
  refine r_if_ne (tgt := 113) rfl rfl (fun qc26 => ?_) (fun qc26 => ?_)
  · replace hf := xi_pos hf qc26
    refine XS.go (s_bipush (v := 6) rfl rfl) ?_
    refine XS.go (s_iconst (v := 2) rfl rfl) ?_
    refine XS.go (s_iload rfl rfl) ?_
    refine XS.go (s_imul rfl) ?_
    refine XS.go (s_iadd rfl) ?_
    exact XR.forget (L2 := [some (.ref 1262), some (.int x1), some (.int x2), none, some (.int x4), none, none, none]) ⟨rfl, ⟨rfl, ⟨rfl, ⟨rfl, trivial⟩⟩⟩⟩ (kb_m_ready_120 hK52 L24 hf)
  · replace hf := xi_neg hf qc26
    refine XS.go (s_iloadn rfl rfl rfl) ?_
    refine XS.go (s_goto (tgt := 120) rfl rfl) ?_
    exact XR.forget (L2 := [some (.ref 1262), some (.int x1), some (.int x2), none, some (.int x4), none, none, none]) ⟨rfl, ⟨rfl, ⟨rfl, ⟨rfl, trivial⟩⟩⟩⟩ (kb_m_ready_120 hK52 L24 hf)
def s_m_ready_52 (K52 : Int32 → Int32 → Int32 → Int32 → XH → Option (Int32 × XH)) (x1 : Int32) (x2 : Int32) (x3 : Int32) (x4 : Int32) (h : XH) : Option (Int32 × XH) := (if 0 ≤ (hi h 1262 67) ∧ (hi h 1262 67) < nI 16 then (if (hi h 1284 (Int32.toNatClampNeg (hi h 1262 67))) ≤ x4 then (Option.bind (f_m_two 0 x3 h) fun r29 => (Option.bind (f_m_two 2 (x2 - (hi r29.2 1262 68)) r29.2) fun r32 => (Option.bind (f_m_known x3 r32.2) fun r35 => (Option.bind (f_m_fill x2 x3 2 r35.2) fun r38 => (if (hi r38.2 1262 59) = 300 then (b_m_ready_191 r38.2) else (if ¬ r35.1 = 0 then (b_m_ready_185 x1 x2 x3 r35.1 r38.1 x2 r38.2) else (b_m_ready_185 x1 x2 x3 r35.1 r38.1 ((x2 + r38.1) + x3) r38.2))))))) else (if 0 ≤ x4 ∧ x4 < nI 32 then (if ¬ (hi h 1307 (Int32.toNatClampNeg x4)) = 0 then (b_m_ready_96 K52 x1 x2 x3 x4 (4 + (2 * x4)) (x2 - (hi h 1307 (Int32.toNatClampNeg x4))) h) else (b_m_ready_96 K52 x1 x2 x3 x4 (4 + (2 * x4)) 0 h)) else none)) else none)
set_option maxRecDepth 20000 in
theorem ks_m_ready_52 {l : Launch} {G : XG} {d : Nat} {K52 : Int32 → Int32 → Int32 → Int32 → XH → Option (Int32 × XH)} {x1 : Int32} {x2 : Int32} {x3 : Int32} {x4 : Int32} {h : XH} {r : Int32 × XH} (hK52 : ∀ (x1 : Int32) (x2 : Int32) (x3 : Int32) (x4 : Int32) (h : XH), LY h → K52 x1 x2 x3 x4 h = some r → XR l G xEX12_ready (d + 1) (52, [some (.ref 1262), some (.int x1), some (.int x2), some (.int x3), some (.int x4), none, none, none], [], h) (fun C => ∃ v, xRet xEX12_ready C v ∧ (C.2.2.2 = r.2 ∧ v = some (.int r.1)) ∧ LY r.2)) (L0 : LY h) (hf : s_m_ready_52 K52 x1 x2 x3 x4 h = some r) : XR l G xEX12_ready (d + 1) (52, [some (.ref 1262), some (.int x1), some (.int x2), some (.int x3), some (.int x4), none, none, none], [], h) (fun C => ∃ v, xRet xEX12_ready C v ∧ (C.2.2.2 = r.2 ∧ v = some (.int r.1)) ∧ LY r.2) := by
  unfold s_m_ready_52 at hf
  refine XS.go (s_iload rfl rfl) ?_
  refine XS.go (s_aloadn rfl rfl rfl) ?_
  refine XS.go (s_getr rfl xf12_73 (LY.lt L0 (by decide)) (LY.k1262 L0) (by decide) rfl (LY.r1262_33 L0)) ?_
  refine XS.go (s_aloadn rfl rfl rfl) ?_
  refine XS.go (s_getie rfl xf12_140 (LY.lt L0 (by decide)) (LY.k1262 L0) (by decide) rfl rfl) ?_
  replace hf := xi_none hf
  obtain ⟨qk27, hf⟩ := hf
  refine XS.go (s_ialde rfl (LY.lt L0 (by decide)) (LY.k1284 L0) (inLit (LY.n1284 L0) qk27.1 qk27.2 (by decide)) rfl) ?_
  refine r_icmp_ge (tgt := 127) rfl rfl (fun qc28 => ?_) (fun qc28 => ?_)
  · replace hf := xi_pos hf qc28
    refine XS.go (s_aloadn rfl rfl rfl) ?_
    refine XS.go (s_iconst (v := 0) rfl rfl) ?_
    refine XS.go (s_iloadn rfl rfl rfl) ?_
    replace hf := xb_some hf
    obtain ⟨r29, e30, hf⟩ := hf
    refine r_callv rfl xvX12_two xm12_435 (kf_m_two (d := d) L0 e30) (LY.lt L0 (by decide)) (LY.k1262 L0) (by decide) rfl rfl (dl0 (by decide)) (by decide) (Nat.le_of_ble_eq_true rfl) ?_
    rintro _ _ ⟨⟨rfl, rfl⟩, L31⟩
    refine XS.go (s_aloadn rfl rfl rfl) ?_
    refine XS.go (s_iconst (v := 2) rfl rfl) ?_
    refine XS.go (s_iloadn rfl rfl rfl) ?_
    refine XS.go (s_aloadn rfl rfl rfl) ?_
    refine XS.go (s_getie rfl xf12_426 (LY.lt L31 (by decide)) (LY.k1262 L31) (by decide) rfl rfl) ?_
    refine XS.go (s_isub rfl) ?_
    replace hf := xb_some hf
    obtain ⟨r32, e33, hf⟩ := hf
    refine r_callv rfl xvX12_two xm12_435 (kf_m_two (d := d) L31 e33) (LY.lt L31 (by decide)) (LY.k1262 L31) (by decide) rfl rfl (dl0 (by decide)) (by decide) (Nat.le_of_ble_eq_true rfl) ?_
    rintro _ _ ⟨⟨rfl, rfl⟩, L34⟩
    refine XS.go (s_aloadn rfl rfl rfl) ?_
    refine XS.go (s_iloadn rfl rfl rfl) ?_
    replace hf := xb_some hf
    obtain ⟨r35, e36, hf⟩ := hf
    refine r_callv rfl xvX12_known xm12_438 (kf_m_known (d := d) L34 e36) (LY.lt L34 (by decide)) (LY.k1262 L34) (by decide) rfl rfl (dl0 (by decide)) (by decide) (Nat.le_of_ble_eq_true rfl) ?_
    rintro _ _ ⟨⟨rfl, rfl⟩, L37⟩
    refine XS.go (XS.lcl (L3 := [some (.ref 1262), some (.int x1), some (.int x2), some (.int x3), some (.int r35.1), none, none, none]) (s_istore rfl (Nat.le_of_ble_eq_true rfl)) rfl) ?_
    refine XS.go (s_aloadn rfl rfl rfl) ?_
    refine XS.go (s_iloadn rfl rfl rfl) ?_
    refine XS.go (s_iloadn rfl rfl rfl) ?_
    refine XS.go (s_iconst (v := 2) rfl rfl) ?_
    replace hf := xb_some hf
    obtain ⟨r38, e39, hf⟩ := hf
    refine r_callv rfl xvX12_fill xm12_400 (kf_m_fill (d := d) L37 e39) (LY.lt L37 (by decide)) (LY.k1262 L37) (by decide) rfl rfl (dl0 (by decide)) (by decide) (Nat.le_of_ble_eq_true rfl) ?_
    rintro _ _ ⟨⟨rfl, rfl⟩, L40⟩
    refine XS.go (XS.lcl (L3 := [some (.ref 1262), some (.int x1), some (.int x2), some (.int x3), some (.int r35.1), some (.int r38.1), none, none]) (s_istore rfl (Nat.le_of_ble_eq_true rfl)) rfl) ?_
    refine XS.go (s_aloadn rfl rfl rfl) ?_
    refine XS.go (s_getie rfl xf12_388 (LY.lt L40 (by decide)) (LY.k1262 L40) (by decide) rfl rfl) ?_
    refine XS.go (s_sipush (v := 300) rfl rfl) ?_
    refine r_icmp_eq (tgt := 191) rfl rfl (fun qc41 => ?_) (fun qc41 => ?_)
    · replace hf := xi_pos hf qc41
      exact XR.forget (L2 := [some (.ref 1262), none, none, none, none, none, none, none]) ⟨rfl, trivial⟩ (kb_m_ready_191 L40 hf)
    · replace hf := xi_neg hf qc41
      refine XS.go (s_iload rfl rfl) ?_
      refine r_if_ne (tgt := 184) rfl rfl (fun qc42 => ?_) (fun qc42 => ?_)
      · replace hf := xi_pos hf qc42
        refine XS.go (s_iloadn rfl rfl rfl) ?_
        exact XR.forget (L2 := [some (.ref 1262), some (.int x1), some (.int x2), some (.int x3), some (.int r35.1), some (.int r38.1), none, none]) ⟨rfl, ⟨rfl, ⟨rfl, ⟨rfl, ⟨rfl, ⟨rfl, trivial⟩⟩⟩⟩⟩⟩ (kb_m_ready_185 L40 hf)
      · replace hf := xi_neg hf qc42
        refine XS.go (s_iloadn rfl rfl rfl) ?_
        refine XS.go (s_iload rfl rfl) ?_
        refine XS.go (s_iadd rfl) ?_
        refine XS.go (s_iloadn rfl rfl rfl) ?_
        refine XS.go (s_iadd rfl) ?_
        refine XS.go (s_goto (tgt := 185) rfl rfl) ?_
        exact XR.forget (L2 := [some (.ref 1262), some (.int x1), some (.int x2), some (.int x3), some (.int r35.1), some (.int r38.1), none, none]) ⟨rfl, ⟨rfl, ⟨rfl, ⟨rfl, ⟨rfl, ⟨rfl, trivial⟩⟩⟩⟩⟩⟩ (kb_m_ready_185 L40 hf)
  · replace hf := xi_neg hf qc28
    refine XS.go (s_aloadn rfl rfl rfl) ?_
    refine XS.go (s_iconst (v := 4) rfl rfl) ?_
    refine XS.go (s_iconst (v := 2) rfl rfl) ?_
    refine XS.go (s_iload rfl rfl) ?_
    refine XS.go (s_imul rfl) ?_
    refine XS.go (s_iadd rfl) ?_
    refine XS.go (s_aloadn rfl rfl rfl) ?_
    refine XS.go (s_getr rfl xf12_148 (LY.lt L0 (by decide)) (LY.k1262 L0) (by decide) rfl (LY.r1262_70 L0)) ?_
    refine XS.go (s_iload rfl rfl) ?_
    replace hf := xi_none hf
    obtain ⟨qk43, hf⟩ := hf
    refine XS.go (s_ialde rfl (LY.lt L0 (by decide)) (LY.k1307 L0) (inLit (LY.n1307 L0) qk43.1 qk43.2 (by decide)) rfl) ?_
    refine r_if_ne (tgt := 87) rfl rfl (fun qc44 => ?_) (fun qc44 => ?_)
    · replace hf := xi_pos hf qc44
      refine XS.go (s_iloadn rfl rfl rfl) ?_
      refine XS.go (s_aloadn rfl rfl rfl) ?_
      refine XS.go (s_getr rfl xf12_148 (LY.lt L0 (by decide)) (LY.k1262 L0) (by decide) rfl (LY.r1262_70 L0)) ?_
      refine XS.go (s_iload rfl rfl) ?_
      refine XS.go (s_ialde rfl (LY.lt L0 (by decide)) (LY.k1307 L0) (inLit (LY.n1307 L0) qk43.1 qk43.2 (by decide)) rfl) ?_
      refine XS.go (s_isub rfl) ?_
      exact XR.forget (L2 := [some (.ref 1262), some (.int x1), some (.int x2), some (.int x3), some (.int x4), none, none, none]) ⟨rfl, ⟨rfl, ⟨rfl, ⟨rfl, ⟨rfl, trivial⟩⟩⟩⟩⟩ (kb_m_ready_96 hK52 L0 hf)
    · replace hf := xi_neg hf qc44
      refine XS.go (s_iconst (v := 0) rfl rfl) ?_
      refine XS.go (s_goto (tgt := 96) rfl rfl) ?_
      exact XR.forget (L2 := [some (.ref 1262), some (.int x1), some (.int x2), some (.int x3), some (.int x4), none, none, none]) ⟨rfl, ⟨rfl, ⟨rfl, ⟨rfl, ⟨rfl, trivial⟩⟩⟩⟩⟩ (kb_m_ready_96 hK52 L0 hf)
def b_m_ready_52 : Nat → Int32 → Int32 → Int32 → Int32 → XH → Option (Int32 × XH)
  | 0, _, _, _, _, _ => none
  | n + 1, x1, x2, x3, x4, h => s_m_ready_52 (b_m_ready_52 n) x1 x2 x3 x4 h
theorem kb_m_ready_52 {l : Launch} {G : XG} {d : Nat} {n : Nat} {x1 : Int32} {x2 : Int32} {x3 : Int32} {x4 : Int32} {h : XH} {r : Int32 × XH} (L0 : LY h) (hf : b_m_ready_52 n x1 x2 x3 x4 h = some r) : XR l G xEX12_ready (d + 1) (52, [some (.ref 1262), some (.int x1), some (.int x2), some (.int x3), some (.int x4), none, none, none], [], h) (fun C => ∃ v, xRet xEX12_ready C v ∧ (C.2.2.2 = r.2 ∧ v = some (.int r.1)) ∧ LY r.2) := by
  induction n generalizing x1 x2 x3 x4 h with
  | zero => cases hf
  | succ n ih => exact ks_m_ready_52 (fun x1 x2 x3 x4 h L0 hf => ih (h := h) (x1 := x1) (x2 := x2) (x3 := x3) (x4 := x4) L0 hf) L0 hf
def b_m_ready_20 (h : XH) : Option (Int32 × XH) := (some (0, (hsi h 1262 0 1)))
set_option maxRecDepth 20000 in
theorem kb_m_ready_20 {l : Launch} {G : XG} {d : Nat} {h : XH} {r : Int32 × XH} (L0 : LY h) (hf : b_m_ready_20 h = some r) : XR l G xEX12_ready (d + 1) (20, [some (.ref 1262), none, none, none, none, none, none, none], [], h) (fun C => ∃ v, xRet xEX12_ready C v ∧ (C.2.2.2 = r.2 ∧ v = some (.int r.1)) ∧ LY r.2) := by
  unfold b_m_ready_20 at hf
  refine XS.go (s_aloadn rfl rfl rfl) ?_
  refine XS.go (s_iconst (v := 1) rfl rfl) ?_
  refine XS.go (s_puti rfl xf12_175 (LY.lt L0 (by decide)) (LY.k1262 L0) (by decide) rfl (Or.inl rfl)) ?_
  refine XS.go (s_iconst (v := 0) rfl rfl) ?_
  cases hf
  exact XR.reti rfl rfl (fun hret => ⟨_, hret, ⟨rfl, rfl⟩, (by simp only [LY_si, LY_sj]; exact L0)⟩)
def f_m_ready (h : XH) : Option (Int32 × XH) := (if (hi h 1262 67) = (-1) then (b_m_ready_20 (hsi h 1262 0 0)) else (Option.bind (f_m_lacks (hsi h 1262 0 0)) fun r46 => (if r46.1 = 0 then (Option.bind (f_m_fill (hi r46.2 1262 57) 4 4 r46.2) fun r50 => (b_m_ready_52 100000 r50.1 (((hi r50.2 1262 57) + r50.1) + 4) 4 0 r50.2)) else (b_m_ready_20 r46.2))))
set_option maxRecDepth 20000 in
theorem kf_m_ready {l : Launch} {G : XG} {d : Nat} {h : XH} {r : Int32 × XH} (L0 : LY h) (hf : f_m_ready h = some r) : XC l G xEX12_ready (d + 1) [.ref 1262] h (fun v h2 => (h2 = r.2 ∧ v = some (.int r.1)) ∧ LY r.2) := by
  refine XC.virt xvX12_ready (Nat.le_of_ble_eq_true rfl) ?_
  unfold f_m_ready at hf
  refine XR.norm (L3 := [some (.ref 1262), none, none, none, none, none, none, none]) rfl ?_
  refine XS.go (s_aloadn rfl rfl rfl) ?_
  refine XS.go (s_iconst (v := 0) rfl rfl) ?_
  refine XS.go (s_puti rfl xf12_175 (LY.lt L0 (by decide)) (LY.k1262 L0) (by decide) rfl (Or.inl rfl)) ?_
  refine XS.go (s_aloadn rfl rfl rfl) ?_
  refine XS.go (s_getie rfl xf12_140 (LY.lt (by simp only [LY_si, LY_sj]; exact L0) (by decide)) (LY.k1262 (by simp only [LY_si, LY_sj]; exact L0)) (by decide) rfl (hi_hsi_nk (by decide))) ?_
  refine XS.go (s_iconst (v := (-1)) rfl rfl) ?_
  refine r_icmp_eq (tgt := 20) rfl rfl (fun qc45 => ?_) (fun qc45 => ?_)
  · replace hf := xi_pos hf qc45
    exact XR.forget (L2 := [some (.ref 1262), none, none, none, none, none, none, none]) ⟨rfl, trivial⟩ (kb_m_ready_20 (by simp only [LY_si, LY_sj]; exact L0) hf)
  · replace hf := xi_neg hf qc45
    refine XS.go (s_aloadn rfl rfl rfl) ?_
    replace hf := xb_some hf
    obtain ⟨r46, e47, hf⟩ := hf
    refine r_callv rfl xvX12_lacks xm12_432 (kf_m_lacks (d := d) (by simp only [LY_si, LY_sj]; exact L0) e47) (LY.lt (by simp only [LY_si, LY_sj]; exact L0) (by decide)) (LY.k1262 (by simp only [LY_si, LY_sj]; exact L0)) (by decide) rfl rfl (dl0 (by decide)) (by decide) (Nat.le_of_ble_eq_true rfl) ?_
    rintro _ _ ⟨⟨rfl, rfl⟩, L48⟩
    refine r_if_eq (tgt := 27) rfl rfl (fun qc49 => ?_) (fun qc49 => ?_)
    · replace hf := xi_pos hf qc49
      refine XS.go (s_aloadn rfl rfl rfl) ?_
      refine XS.go (s_aloadn rfl rfl rfl) ?_
      refine XS.go (s_getie rfl xf12_382 (LY.lt L48 (by decide)) (LY.k1262 L48) (by decide) rfl rfl) ?_
      refine XS.go (s_iconst (v := 4) rfl rfl) ?_
      refine XS.go (s_iconst (v := 4) rfl rfl) ?_
      replace hf := xb_some hf
      obtain ⟨r50, e51, hf⟩ := hf
      refine r_callv rfl xvX12_fill xm12_400 (kf_m_fill (d := d) L48 e51) (LY.lt L48 (by decide)) (LY.k1262 L48) (by decide) rfl rfl (dl0 (by decide)) (by decide) (Nat.le_of_ble_eq_true rfl) ?_
      rintro _ _ ⟨⟨rfl, rfl⟩, L52⟩
      refine XS.go (XS.lcl (L3 := [some (.ref 1262), some (.int r50.1), none, none, none, none, none, none]) (s_istoren rfl rfl (Nat.le_of_ble_eq_true rfl)) rfl) ?_
      refine XS.go (s_aloadn rfl rfl rfl) ?_
      refine XS.go (s_getie rfl xf12_382 (LY.lt L52 (by decide)) (LY.k1262 L52) (by decide) rfl rfl) ?_
      refine XS.go (s_iloadn rfl rfl rfl) ?_
      refine XS.go (s_iadd rfl) ?_
      refine XS.go (s_iconst (v := 4) rfl rfl) ?_
      refine XS.go (s_iadd rfl) ?_
      refine XS.go (XS.lcl (L3 := [some (.ref 1262), some (.int r50.1), some (.int (((hi r50.2 1262 57) + r50.1) + 4)), none, none, none, none, none]) (s_istoren rfl rfl (Nat.le_of_ble_eq_true rfl)) rfl) ?_
      refine XS.go (s_iconst (v := 4) rfl rfl) ?_
      refine XS.go (XS.lcl (L3 := [some (.ref 1262), some (.int r50.1), some (.int (((hi r50.2 1262 57) + r50.1) + 4)), some (.int 4), none, none, none, none]) (s_istoren rfl rfl (Nat.le_of_ble_eq_true rfl)) rfl) ?_
      refine XS.go (s_iconst (v := 0) rfl rfl) ?_
      refine XS.go (XS.lcl (L3 := [some (.ref 1262), some (.int r50.1), some (.int (((hi r50.2 1262 57) + r50.1) + 4)), some (.int 4), some (.int 0), none, none, none]) (s_istore rfl (Nat.le_of_ble_eq_true rfl)) rfl) ?_
      exact XR.forget (L2 := [some (.ref 1262), some (.int r50.1), some (.int (((hi r50.2 1262 57) + r50.1) + 4)), some (.int 4), some (.int 0), none, none, none]) ⟨rfl, ⟨rfl, ⟨rfl, ⟨rfl, ⟨rfl, trivial⟩⟩⟩⟩⟩ (kb_m_ready_52 L52 hf)
    · replace hf := xi_neg hf qc49
      exact XR.forget (L2 := [some (.ref 1262), none, none, none, none, none, none, none]) ⟨rfl, trivial⟩ (kb_m_ready_20 L48 hf)
def s_m_finish_104 (K104 : Int32 → XH → Option (Int32 × XH)) (x3 : Int32) (h : XH) : Option (Int32 × XH) := (if (hi h 1262 57) ≤ x3 then (Option.bind (f_m_empty h) fun r2 => (some ((hi r2.2 1262 72), r2.2))) else (if 0 ≤ (((hi h 1262 57) - 1) - x3) ∧ (((hi h 1262 57) - 1) - x3) < nI 4300 then (if 0 ≤ x3 ∧ x3 < nI 4000 then (K104 (x3 + 1) (hsi h 1308 (Int32.toNatClampNeg x3) (hi h 1299 (Int32.toNatClampNeg (((hi h 1262 57) - 1) - x3))))) else none) else none))
set_option maxRecDepth 20000 in
theorem ks_m_finish_104 {l : Launch} {G : XG} {d : Nat} {K104 : Int32 → XH → Option (Int32 × XH)} {x3 : Int32} {h : XH} {r : Int32 × XH} (hK104 : ∀ (x3 : Int32) (h : XH), LY h → K104 x3 h = some r → XR l G xEX12_finish (d + 2) (104, [some (.ref 1262), none, none, some (.int x3)], [], h) (fun C => ∃ v, xRet xEX12_finish C v ∧ (C.2.2.2 = r.2 ∧ v = some (.int r.1)) ∧ LY r.2)) (L0 : LY h) (hf : s_m_finish_104 K104 x3 h = some r) : XR l G xEX12_finish (d + 2) (104, [some (.ref 1262), none, none, some (.int x3)], [], h) (fun C => ∃ v, xRet xEX12_finish C v ∧ (C.2.2.2 = r.2 ∧ v = some (.int r.1)) ∧ LY r.2) := by
  unfold s_m_finish_104 at hf
  refine XS.go (s_iloadn rfl rfl rfl) ?_
  refine XS.go (s_aloadn rfl rfl rfl) ?_
  refine XS.go (s_getie rfl xf12_382 (LY.lt L0 (by decide)) (LY.k1262 L0) (by decide) rfl rfl) ?_
  refine r_icmp_ge (tgt := 137) rfl rfl (fun qc1 => ?_) (fun qc1 => ?_)
  · replace hf := xi_pos hf qc1
    refine XS.go (s_aloadn rfl rfl rfl) ?_
    replace hf := xb_some hf
    obtain ⟨r2, e3, hf⟩ := hf
    refine r_callv rfl xvX12_empty xm12_357 (kf_m_empty (d := d) L0 e3) (LY.lt L0 (by decide)) (LY.k1262 L0) (by decide) rfl rfl (dl0 (by decide)) (by decide) (Nat.le_of_ble_eq_true rfl) ?_
    rintro _ _ ⟨⟨rfl, rfl⟩, L4⟩
    refine XS.go (s_aloadn rfl rfl rfl) ?_
    refine XS.go (s_getie rfl xf12_441 (LY.lt L4 (by decide)) (LY.k1262 L4) (by decide) rfl rfl) ?_
    cases hf
    exact XR.reti rfl rfl (fun hret => ⟨_, hret, ⟨rfl, rfl⟩, L4⟩)
  · replace hf := xi_neg hf qc1
    refine XS.go (s_aloadn rfl rfl rfl) ?_
    refine XS.go (s_getr rfl xf12_151 (LY.lt L0 (by decide)) (LY.k1262 L0) (by decide) rfl (LY.r1262_71 L0)) ?_
    refine XS.go (s_iloadn rfl rfl rfl) ?_
    refine XS.go (s_aloadn rfl rfl rfl) ?_
    refine XS.go (s_getr rfl xf12_119 (LY.lt L0 (by decide)) (LY.k1262 L0) (by decide) rfl (LY.r1262_56 L0)) ?_
    refine XS.go (s_aloadn rfl rfl rfl) ?_
    refine XS.go (s_getie rfl xf12_382 (LY.lt L0 (by decide)) (LY.k1262 L0) (by decide) rfl rfl) ?_
    refine XS.go (s_iconst (v := 1) rfl rfl) ?_
    refine XS.go (s_isub rfl) ?_
    refine XS.go (s_iloadn rfl rfl rfl) ?_
    refine XS.go (s_isub rfl) ?_
    replace hf := xi_none hf
    obtain ⟨qk5, hf⟩ := hf
    refine XS.go (s_ialde rfl (LY.lt L0 (by decide)) (LY.k1299 L0) (inLit (LY.n1299 L0) qk5.1 qk5.2 (by decide)) rfl) ?_
    replace hf := xi_none hf
    obtain ⟨qk6, hf⟩ := hf
    refine XS.go (s_iast rfl (LY.lt L0 (by decide)) (LY.k1308 L0) (inLit (LY.n1308 L0) qk6.1 qk6.2 (by decide))) ?_
    refine XS.go (XS.lcl (L3 := [some (.ref 1262), none, none, some (.int (x3 + 1))]) (s_inc rfl rfl (Nat.le_of_ble_eq_true rfl)) rfl) ?_
    refine XS.go (s_goto (tgt := 104) rfl rfl) ?_
    exact XR.forget (L2 := [some (.ref 1262), none, none, some (.int (x3 + 1))]) ⟨rfl, ⟨rfl, trivial⟩⟩ (hK104 (x3 + 1) _ (by simp only [LY_si, LY_sj]; exact L0) hf)
def b_m_finish_104 : Nat → Int32 → XH → Option (Int32 × XH)
  | 0, _, _ => none
  | n + 1, x3, h => s_m_finish_104 (b_m_finish_104 n) x3 h
theorem kb_m_finish_104 {l : Launch} {G : XG} {d : Nat} {n : Nat} {x3 : Int32} {h : XH} {r : Int32 × XH} (L0 : LY h) (hf : b_m_finish_104 n x3 h = some r) : XR l G xEX12_finish (d + 2) (104, [some (.ref 1262), none, none, some (.int x3)], [], h) (fun C => ∃ v, xRet xEX12_finish C v ∧ (C.2.2.2 = r.2 ∧ v = some (.int r.1)) ∧ LY r.2) := by
  induction n generalizing x3 h with
  | zero => cases hf
  | succ n ih => exact ks_m_finish_104 (fun x3 h L0 hf => ih (h := h) (x3 := x3) L0 hf) L0 hf
def b_m_finish_42 (h : XH) : Option (Int32 × XH) := (some (0, (hsi h 1262 0 2)))
set_option maxRecDepth 20000 in
theorem kb_m_finish_42 {l : Launch} {G : XG} {d : Nat} {h : XH} {r : Int32 × XH} (L0 : LY h) (hf : b_m_finish_42 h = some r) : XR l G xEX12_finish (d + 2) (42, [some (.ref 1262), none, none, none], [], h) (fun C => ∃ v, xRet xEX12_finish C v ∧ (C.2.2.2 = r.2 ∧ v = some (.int r.1)) ∧ LY r.2) := by
  unfold b_m_finish_42 at hf
  refine XS.go (s_aloadn rfl rfl rfl) ?_
  refine XS.go (s_iconst (v := 2) rfl rfl) ?_
  refine XS.go (s_puti rfl xf12_175 (LY.lt L0 (by decide)) (LY.k1262 L0) (by decide) rfl (Or.inl rfl)) ?_
  refine XS.go (s_iconst (v := 0) rfl rfl) ?_
  cases hf
  exact XR.reti rfl rfl (fun hret => ⟨_, hret, ⟨rfl, rfl⟩, (by simp only [LY_si, LY_sj]; exact L0)⟩)
def f_m_finish (a0 : Int32) (h : XH) : Option (Int32 × XH) := (if (hi h 1262 67) = (-1) then (if (hi h 1262 7) = 0 then (b_m_finish_42 (hsi h 1262 0 0)) else (Option.bind (f_m_isThing (Int32.toInt64 a0) 3 (-1) (hi h 1262 45) (hsi h 1262 0 0)) fun r9 => (if ¬ r9.1 = 0 then (Option.bind (f_m_fill (hi r9.2 1262 57) 4 (hi r9.2 1262 58) r9.2) fun r13 => (if (((hi r13.2 1262 57) + r13.1) + 4) ≤ 4000 then (Option.bind (f_m_zeros r13.1 r13.2) fun r17 => (Option.bind (f_m_reference a0 r17.2) fun r20 => (b_m_finish_104 100000 0 (hsi r20.2 1262 72 (hi r20.2 1262 57))))) else (some (0, (hsi r13.2 1262 0 3))))) else (b_m_finish_42 r9.2)))) else (some (0, (hsi (hsi h 1262 0 0) 1262 0 1))))
set_option maxRecDepth 20000 in
theorem kf_m_finish {l : Launch} {G : XG} {d : Nat} {a0 : Int32} {h : XH} {r : Int32 × XH} (L0 : LY h) (hf : f_m_finish a0 h = some r) : XC l G xEX12_finish (d + 2) [.ref 1262, .int a0] h (fun v h2 => (h2 = r.2 ∧ v = some (.int r.1)) ∧ LY r.2) := by
  refine XC.virt xvX12_finish (Nat.le_of_ble_eq_true rfl) ?_
  unfold f_m_finish at hf
  refine XR.norm (L3 := [some (.ref 1262), some (.int a0), none, none]) rfl ?_
  refine XS.go (s_aloadn rfl rfl rfl) ?_
  refine XS.go (s_iconst (v := 0) rfl rfl) ?_
  refine XS.go (s_puti rfl xf12_175 (LY.lt L0 (by decide)) (LY.k1262 L0) (by decide) rfl (Or.inl rfl)) ?_
  refine XS.go (s_aloadn rfl rfl rfl) ?_
  refine XS.go (s_getie rfl xf12_140 (LY.lt (by simp only [LY_si, LY_sj]; exact L0) (by decide)) (LY.k1262 (by simp only [LY_si, LY_sj]; exact L0)) (by decide) rfl (hi_hsi_nk (by decide))) ?_
  refine XS.go (s_iconst (v := (-1)) rfl rfl) ?_
  refine r_icmp_eq (tgt := 20) rfl rfl (fun qc7 => ?_) (fun qc7 => ?_)
  · replace hf := xi_pos hf qc7
    refine XS.go (s_aloadn rfl rfl rfl) ?_
    refine XS.go (s_getze rfl xf12_353 (LY.lt (by simp only [LY_si, LY_sj]; exact L0) (by decide)) (LY.k1262 (by simp only [LY_si, LY_sj]; exact L0)) (by decide) rfl (hi_hsi_nk (by decide))) ?_
    refine r_if_eq (tgt := 42) rfl rfl (fun qc8 => ?_) (fun qc8 => ?_)
    · replace hf := xi_pos hf qc8
      exact XR.forget (L2 := [some (.ref 1262), none, none, none]) ⟨rfl, trivial⟩ (kb_m_finish_42 (by simp only [LY_si, LY_sj]; exact L0) hf)
    · replace hf := xi_neg hf qc8
      refine XS.go (s_aloadn rfl rfl rfl) ?_
      refine XS.go (s_iloadn rfl rfl rfl) ?_
      refine XS.go (s_i2l rfl) ?_
      refine XS.go (s_iconst (v := 3) rfl rfl) ?_
      refine XS.go (s_iconst (v := (-1)) rfl rfl) ?_
      refine XS.go (s_aloadn rfl rfl rfl) ?_
      refine XS.go (s_getie rfl xf12_338 (LY.lt (by simp only [LY_si, LY_sj]; exact L0) (by decide)) (LY.k1262 (by simp only [LY_si, LY_sj]; exact L0)) (by decide) rfl (hi_hsi_nk (by decide))) ?_
      replace hf := xb_some hf
      obtain ⟨r9, e10, hf⟩ := hf
      refine r_callv rfl xvX12_isThing xm12_416 (kf_m_isThing (d := d) (by simp only [LY_si, LY_sj]; exact L0) e10) (LY.lt (by simp only [LY_si, LY_sj]; exact L0) (by decide)) (LY.k1262 (by simp only [LY_si, LY_sj]; exact L0)) (by decide) rfl rfl (dl0 (by decide)) (by decide) (Nat.le_of_ble_eq_true rfl) ?_
      rintro _ _ ⟨⟨rfl, rfl⟩, L11⟩
      refine r_if_ne (tgt := 49) rfl rfl (fun qc12 => ?_) (fun qc12 => ?_)
      · replace hf := xi_pos hf qc12
        refine XS.go (s_aloadn rfl rfl rfl) ?_
        refine XS.go (s_aloadn rfl rfl rfl) ?_
        refine XS.go (s_getie rfl xf12_382 (LY.lt L11 (by decide)) (LY.k1262 L11) (by decide) rfl rfl) ?_
        refine XS.go (s_iconst (v := 4) rfl rfl) ?_
        refine XS.go (s_aloadn rfl rfl rfl) ?_
        refine XS.go (s_getie rfl xf12_385 (LY.lt L11 (by decide)) (LY.k1262 L11) (by decide) rfl rfl) ?_
        replace hf := xb_some hf
        obtain ⟨r13, e14, hf⟩ := hf
        refine r_callv rfl xvX12_fill xm12_400 (kf_m_fill (d := d) L11 e14) (LY.lt L11 (by decide)) (LY.k1262 L11) (by decide) rfl rfl (dl0 (by decide)) (by decide) (Nat.le_of_ble_eq_true rfl) ?_
        rintro _ _ ⟨⟨rfl, rfl⟩, L15⟩
        refine XS.go (XS.lcl (L3 := [some (.ref 1262), some (.int a0), some (.int r13.1), none]) (s_istoren rfl rfl (Nat.le_of_ble_eq_true rfl)) rfl) ?_
        refine XS.go (s_aloadn rfl rfl rfl) ?_
        refine XS.go (s_getie rfl xf12_382 (LY.lt L15 (by decide)) (LY.k1262 L15) (by decide) rfl rfl) ?_
        refine XS.go (s_iloadn rfl rfl rfl) ?_
        refine XS.go (s_iadd rfl) ?_
        refine XS.go (s_iconst (v := 4) rfl rfl) ?_
        refine XS.go (s_iadd rfl) ?_
        refine XS.go (s_sipush (v := 4000) rfl rfl) ?_
        refine r_icmp_le (tgt := 84) rfl rfl (fun qc16 => ?_) (fun qc16 => ?_)
        · replace hf := xi_pos hf qc16
          refine XS.go (s_aloadn rfl rfl rfl) ?_
          refine XS.go (s_iloadn rfl rfl rfl) ?_
          replace hf := xb_some hf
          obtain ⟨r17, e18, hf⟩ := hf
          refine r_callv rfl xvX12_zeros xm12_407 (kf_m_zeros (d := d) L15 e18) (LY.lt L15 (by decide)) (LY.k1262 L15) (by decide) rfl rfl (dl0 (by decide)) (by decide) (Nat.le_of_ble_eq_true rfl) ?_
          rintro _ _ ⟨⟨rfl, rfl⟩, L19⟩
          refine XS.go (s_aloadn rfl rfl rfl) ?_
          refine XS.go (s_iloadn rfl rfl rfl) ?_
          replace hf := xb_some hf
          obtain ⟨r20, e21, hf⟩ := hf
          refine r_callv rfl xvX12_reference xm12_423 (kf_m_reference (d := d) L19 e21) (LY.lt L19 (by decide)) (LY.k1262 L19) (by decide) rfl rfl (dl (by decide)) (by decide) (Nat.le_of_ble_eq_true rfl) ?_
          rintro _ _ ⟨⟨rfl, rfl⟩, L22⟩
          refine XS.go (s_aloadn rfl rfl rfl) ?_
          refine XS.go (s_aloadn rfl rfl rfl) ?_
          refine XS.go (s_getie rfl xf12_382 (LY.lt L22 (by decide)) (LY.k1262 L22) (by decide) rfl rfl) ?_
          refine XS.go (s_puti rfl xf12_441 (LY.lt L22 (by decide)) (LY.k1262 L22) (by decide) rfl (Or.inl rfl)) ?_
          refine XS.go (s_iconst (v := 0) rfl rfl) ?_
          refine XS.go (XS.lcl (L3 := [some (.ref 1262), some (.int a0), some (.int r13.1), some (.int 0)]) (s_istoren rfl rfl (Nat.le_of_ble_eq_true rfl)) rfl) ?_
          exact XR.forget (L2 := [some (.ref 1262), none, none, some (.int 0)]) ⟨rfl, ⟨rfl, trivial⟩⟩ (kb_m_finish_104 (by simp only [LY_si, LY_sj]; exact L22) hf)
        · replace hf := xi_neg hf qc16
          refine XS.go (s_aloadn rfl rfl rfl) ?_
          refine XS.go (s_iconst (v := 3) rfl rfl) ?_
          refine XS.go (s_puti rfl xf12_175 (LY.lt L15 (by decide)) (LY.k1262 L15) (by decide) rfl (Or.inl rfl)) ?_
          refine XS.go (s_iconst (v := 0) rfl rfl) ?_
          cases hf
          exact XR.reti rfl rfl (fun hret => ⟨_, hret, ⟨rfl, rfl⟩, (by simp only [LY_si, LY_sj]; exact L15)⟩)
      · replace hf := xi_neg hf qc12
        exact XR.forget (L2 := [some (.ref 1262), none, none, none]) ⟨rfl, trivial⟩ (kb_m_finish_42 L11 hf)
  · replace hf := xi_neg hf qc7
    refine XS.go (s_aloadn rfl rfl rfl) ?_
    refine XS.go (s_iconst (v := 1) rfl rfl) ?_
    refine XS.go (s_puti rfl xf12_175 (LY.lt (by simp only [LY_si, LY_sj]; exact L0) (by decide)) (LY.k1262 (by simp only [LY_si, LY_sj]; exact L0)) (by decide) rfl (Or.inl rfl)) ?_
    refine XS.go (s_iconst (v := 0) rfl rfl) ?_
    cases hf
    exact XR.reti rfl rfl (fun hret => ⟨_, hret, ⟨rfl, rfl⟩, (by simp only [LY_si, LY_sj]; exact L0)⟩)
def f_m_clear (h : XH) : Option (Int32 × XH) := (Option.bind (f_m_empty (hsi h 1262 0 0)) fun r1 => (some ((hi h 1262 57), r1.2)))
set_option maxRecDepth 20000 in
theorem kf_m_clear {l : Launch} {G : XG} {d : Nat} {h : XH} {r : Int32 × XH} (L0 : LY h) (hf : f_m_clear h = some r) : XC l G xEX12_clear (d + 1) [.ref 1262] h (fun v h2 => (h2 = r.2 ∧ v = some (.int r.1)) ∧ LY r.2) := by
  refine XC.virt xvX12_clear (Nat.le_of_ble_eq_true rfl) ?_
  unfold f_m_clear at hf
  refine XR.norm (L3 := [some (.ref 1262), none]) rfl ?_
  refine XS.go (s_aloadn rfl rfl rfl) ?_
  refine XS.go (s_iconst (v := 0) rfl rfl) ?_
  refine XS.go (s_puti rfl xf12_175 (LY.lt L0 (by decide)) (LY.k1262 L0) (by decide) rfl (Or.inl rfl)) ?_
  refine XS.go (s_aloadn rfl rfl rfl) ?_
  refine XS.go (s_getie rfl xf12_382 (LY.lt (by simp only [LY_si, LY_sj]; exact L0) (by decide)) (LY.k1262 (by simp only [LY_si, LY_sj]; exact L0)) (by decide) rfl (hi_hsi_nk (by decide))) ?_
  refine XS.go (XS.lcl (L3 := [some (.ref 1262), some (.int (hi h 1262 57))]) (s_istoren rfl rfl (Nat.le_of_ble_eq_true rfl)) rfl) ?_
  refine XS.go (s_aloadn rfl rfl rfl) ?_
  replace hf := xb_some hf
  obtain ⟨r1, e2, hf⟩ := hf
  refine r_callv rfl xvX12_empty xm12_357 (kf_m_empty (d := d) (by simp only [LY_si, LY_sj]; exact L0) e2) (LY.lt (by simp only [LY_si, LY_sj]; exact L0) (by decide)) (LY.k1262 (by simp only [LY_si, LY_sj]; exact L0)) (by decide) rfl rfl (dl0 (by decide)) (by decide) (Nat.le_of_ble_eq_true rfl) ?_
  rintro _ _ ⟨⟨rfl, rfl⟩, L3⟩
  refine XS.go (s_iloadn rfl rfl rfl) ?_
  cases hf
  exact XR.reti rfl rfl (fun hret => ⟨_, hret, ⟨rfl, rfl⟩, L3⟩)
def f_m_out (a0 : Int32) (h : XH) : Option (Int32 × XH) := (if a0 < 0 then (some ((-1), (hsi h 1262 0 0))) else (if (hi h 1262 72) ≤ a0 then (some ((-1), (hsi h 1262 0 0))) else (if 0 ≤ a0 ∧ a0 < nI 4000 then (some ((hi h 1308 (Int32.toNatClampNeg a0)), (hsi h 1262 0 0))) else none)))
set_option maxRecDepth 20000 in
theorem kf_m_out {l : Launch} {G : XG} {d : Nat} {a0 : Int32} {h : XH} {r : Int32 × XH} (L0 : LY h) (hf : f_m_out a0 h = some r) : XC l G xEX12_out d [.ref 1262, .int a0] h (fun v h2 => (h2 = r.2 ∧ v = some (.int r.1)) ∧ LY r.2) := by
  refine XC.virt xvX12_out (Nat.le_of_ble_eq_true rfl) ?_
  unfold f_m_out at hf
  refine XR.norm (L3 := [some (.ref 1262), some (.int a0)]) rfl ?_
  refine XS.go (s_aloadn rfl rfl rfl) ?_
  refine XS.go (s_iconst (v := 0) rfl rfl) ?_
  refine XS.go (s_puti rfl xf12_175 (LY.lt L0 (by decide)) (LY.k1262 L0) (by decide) rfl (Or.inl rfl)) ?_
  refine XS.go (s_iloadn rfl rfl rfl) ?_
  refine r_if_lt (tgt := 26) rfl rfl (fun qc1 => ?_) (fun qc1 => ?_)
  · replace hf := xi_pos hf qc1
    refine XS.go (s_iconst (v := (-1)) rfl rfl) ?_
    cases hf
    exact XR.reti rfl rfl (fun hret => ⟨_, hret, ⟨rfl, rfl⟩, (by simp only [LY_si, LY_sj]; exact L0)⟩)
  · replace hf := xi_neg hf qc1
    refine XS.go (s_iloadn rfl rfl rfl) ?_
    refine XS.go (s_aloadn rfl rfl rfl) ?_
    refine XS.go (s_getie rfl xf12_441 (LY.lt (by simp only [LY_si, LY_sj]; exact L0) (by decide)) (LY.k1262 (by simp only [LY_si, LY_sj]; exact L0)) (by decide) rfl (hi_hsi_nk (by decide))) ?_
    refine r_icmp_ge (tgt := 26) rfl rfl (fun qc2 => ?_) (fun qc2 => ?_)
    · replace hf := xi_pos hf qc2
      refine XS.go (s_iconst (v := (-1)) rfl rfl) ?_
      cases hf
      exact XR.reti rfl rfl (fun hret => ⟨_, hret, ⟨rfl, rfl⟩, (by simp only [LY_si, LY_sj]; exact L0)⟩)
    · replace hf := xi_neg hf qc2
      refine XS.go (s_aloadn rfl rfl rfl) ?_
      refine XS.go (s_getr rfl xf12_151 (LY.lt (by simp only [LY_si, LY_sj]; exact L0) (by decide)) (LY.k1262 (by simp only [LY_si, LY_sj]; exact L0)) (by decide) rfl (LY.r1262_71 (by simp only [LY_si, LY_sj]; exact L0))) ?_
      refine XS.go (s_iloadn rfl rfl rfl) ?_
      replace hf := xi_none hf
      obtain ⟨qk3, hf⟩ := hf
      refine XS.go (s_ialde rfl (LY.lt (by simp only [LY_si, LY_sj]; exact L0) (by decide)) (LY.k1308 (by simp only [LY_si, LY_sj]; exact L0)) (inLit (LY.n1308 (by simp only [LY_si, LY_sj]; exact L0)) qk3.1 qk3.2 (by decide)) (hi_hsi_na (by decide))) ?_
      refine XS.go (s_goto (tgt := 27) rfl rfl) ?_
      cases hf
      exact XR.reti rfl rfl (fun hret => ⟨_, hret, ⟨rfl, rfl⟩, (by simp only [LY_si, LY_sj]; exact L0)⟩)
def f_m_count (a0 : Int32) (h : XH) : Option (Int32 × XH) := (if a0 = 0 then (some ((hi h 1262 2), (hsi h 1262 0 0))) else (if a0 = 1 then (some ((hi h 1262 55), (hsi h 1262 0 0))) else (if a0 = 2 then (some ((hi h 1262 57), (hsi h 1262 0 0))) else (if a0 = 3 then (some ((hi h 1262 59), (hsi h 1262 0 0))) else (if a0 = 4 then (some ((hi h 1262 67), (hsi h 1262 0 0))) else (if a0 = 5 then (some ((hi h 1262 72), (hsi h 1262 0 0))) else (if a0 = 6 then (if (hi h 1262 81) = 0 then (some (0, (hsi h 1262 0 0))) else (some ((hi h 1262 80), (hsi h 1262 0 0)))) else (if a0 = 7 then (some ((hi h 1262 64), (hsi h 1262 0 0))) else (if a0 = 8 then (some ((hi h 1262 82), (hsi h 1262 0 0))) else (some ((-1), (hsi h 1262 0 0))))))))))))
set_option maxRecDepth 20000 in
theorem kf_m_count {l : Launch} {G : XG} {d : Nat} {a0 : Int32} {h : XH} {r : Int32 × XH} (L0 : LY h) (hf : f_m_count a0 h = some r) : XC l G xEX12_count d [.ref 1262, .int a0] h (fun v h2 => (h2 = r.2 ∧ v = some (.int r.1)) ∧ LY r.2) := by
  refine XC.virt xvX12_count (Nat.le_of_ble_eq_true rfl) ?_
  unfold f_m_count at hf
  refine XR.norm (L3 := [some (.ref 1262), some (.int a0)]) rfl ?_
  refine XS.go (s_aloadn rfl rfl rfl) ?_
  refine XS.go (s_iconst (v := 0) rfl rfl) ?_
  refine XS.go (s_puti rfl xf12_175 (LY.lt L0 (by decide)) (LY.k1262 L0) (by decide) rfl (Or.inl rfl)) ?_
  refine XS.go (s_iloadn rfl rfl rfl) ?_
  by_cases qs1_0 : a0 = 0
  · replace hf := xi_pos hf qs1_0
    refine XS.go (s_tswI (tgt := 56) rfl (by rw [qs1_0]; decide) (by rw [qs1_0]; decide) (by rw [qs1_0]; rfl) rfl) ?_
    refine XS.go (s_aloadn rfl rfl rfl) ?_
    refine XS.go (s_getie rfl xf12_178 (LY.lt (by simp only [LY_si, LY_sj]; exact L0) (by decide)) (LY.k1262 (by simp only [LY_si, LY_sj]; exact L0)) (by decide) rfl (hi_hsi_nk (by decide))) ?_
    cases hf
    exact XR.reti rfl rfl (fun hret => ⟨_, hret, ⟨rfl, rfl⟩, (by simp only [LY_si, LY_sj]; exact L0)⟩)
  replace hf := xi_neg hf qs1_0
  by_cases qs1_1 : a0 = 1
  · replace hf := xi_pos hf qs1_1
    refine XS.go (s_tswI (tgt := 61) rfl (by rw [qs1_1]; decide) (by rw [qs1_1]; decide) (by rw [qs1_1]; rfl) rfl) ?_
    refine XS.go (s_aloadn rfl rfl rfl) ?_
    refine XS.go (s_getie rfl xf12_379 (LY.lt (by simp only [LY_si, LY_sj]; exact L0) (by decide)) (LY.k1262 (by simp only [LY_si, LY_sj]; exact L0)) (by decide) rfl (hi_hsi_nk (by decide))) ?_
    cases hf
    exact XR.reti rfl rfl (fun hret => ⟨_, hret, ⟨rfl, rfl⟩, (by simp only [LY_si, LY_sj]; exact L0)⟩)
  replace hf := xi_neg hf qs1_1
  by_cases qs1_2 : a0 = 2
  · replace hf := xi_pos hf qs1_2
    refine XS.go (s_tswI (tgt := 66) rfl (by rw [qs1_2]; decide) (by rw [qs1_2]; decide) (by rw [qs1_2]; rfl) rfl) ?_
    refine XS.go (s_aloadn rfl rfl rfl) ?_
    refine XS.go (s_getie rfl xf12_382 (LY.lt (by simp only [LY_si, LY_sj]; exact L0) (by decide)) (LY.k1262 (by simp only [LY_si, LY_sj]; exact L0)) (by decide) rfl (hi_hsi_nk (by decide))) ?_
    cases hf
    exact XR.reti rfl rfl (fun hret => ⟨_, hret, ⟨rfl, rfl⟩, (by simp only [LY_si, LY_sj]; exact L0)⟩)
  replace hf := xi_neg hf qs1_2
  by_cases qs1_3 : a0 = 3
  · replace hf := xi_pos hf qs1_3
    refine XS.go (s_tswI (tgt := 71) rfl (by rw [qs1_3]; decide) (by rw [qs1_3]; decide) (by rw [qs1_3]; rfl) rfl) ?_
    refine XS.go (s_aloadn rfl rfl rfl) ?_
    refine XS.go (s_getie rfl xf12_388 (LY.lt (by simp only [LY_si, LY_sj]; exact L0) (by decide)) (LY.k1262 (by simp only [LY_si, LY_sj]; exact L0)) (by decide) rfl (hi_hsi_nk (by decide))) ?_
    cases hf
    exact XR.reti rfl rfl (fun hret => ⟨_, hret, ⟨rfl, rfl⟩, (by simp only [LY_si, LY_sj]; exact L0)⟩)
  replace hf := xi_neg hf qs1_3
  by_cases qs1_4 : a0 = 4
  · replace hf := xi_pos hf qs1_4
    refine XS.go (s_tswI (tgt := 76) rfl (by rw [qs1_4]; decide) (by rw [qs1_4]; decide) (by rw [qs1_4]; rfl) rfl) ?_
    refine XS.go (s_aloadn rfl rfl rfl) ?_
    refine XS.go (s_getie rfl xf12_140 (LY.lt (by simp only [LY_si, LY_sj]; exact L0) (by decide)) (LY.k1262 (by simp only [LY_si, LY_sj]; exact L0)) (by decide) rfl (hi_hsi_nk (by decide))) ?_
    cases hf
    exact XR.reti rfl rfl (fun hret => ⟨_, hret, ⟨rfl, rfl⟩, (by simp only [LY_si, LY_sj]; exact L0)⟩)
  replace hf := xi_neg hf qs1_4
  by_cases qs1_5 : a0 = 5
  · replace hf := xi_pos hf qs1_5
    refine XS.go (s_tswI (tgt := 81) rfl (by rw [qs1_5]; decide) (by rw [qs1_5]; decide) (by rw [qs1_5]; rfl) rfl) ?_
    refine XS.go (s_aloadn rfl rfl rfl) ?_
    refine XS.go (s_getie rfl xf12_441 (LY.lt (by simp only [LY_si, LY_sj]; exact L0) (by decide)) (LY.k1262 (by simp only [LY_si, LY_sj]; exact L0)) (by decide) rfl (hi_hsi_nk (by decide))) ?_
    cases hf
    exact XR.reti rfl rfl (fun hret => ⟨_, hret, ⟨rfl, rfl⟩, (by simp only [LY_si, LY_sj]; exact L0)⟩)
  replace hf := xi_neg hf qs1_5
  by_cases qs1_6 : a0 = 6
  · replace hf := xi_pos hf qs1_6
    refine XS.go (s_tswI (tgt := 86) rfl (by rw [qs1_6]; decide) (by rw [qs1_6]; decide) (by rw [qs1_6]; rfl) rfl) ?_
    refine XS.go (s_aloadn rfl rfl rfl) ?_
    refine XS.go (s_getze rfl xf12_360 (LY.lt (by simp only [LY_si, LY_sj]; exact L0) (by decide)) (LY.k1262 (by simp only [LY_si, LY_sj]; exact L0)) (by decide) rfl (hi_hsi_nk (by decide))) ?_
    refine r_if_eq (tgt := 100) rfl rfl (fun qc2 => ?_) (fun qc2 => ?_)
    · replace hf := xi_pos hf qc2
      refine XS.go (s_iconst (v := 0) rfl rfl) ?_
      cases hf
      exact XR.reti rfl rfl (fun hret => ⟨_, hret, ⟨rfl, rfl⟩, (by simp only [LY_si, LY_sj]; exact L0)⟩)
    · replace hf := xi_neg hf qc2
      refine XS.go (s_aloadn rfl rfl rfl) ?_
      refine XS.go (s_getie rfl xf12_444 (LY.lt (by simp only [LY_si, LY_sj]; exact L0) (by decide)) (LY.k1262 (by simp only [LY_si, LY_sj]; exact L0)) (by decide) rfl (hi_hsi_nk (by decide))) ?_
      refine XS.go (s_goto (tgt := 101) rfl rfl) ?_
      cases hf
      exact XR.reti rfl rfl (fun hret => ⟨_, hret, ⟨rfl, rfl⟩, (by simp only [LY_si, LY_sj]; exact L0)⟩)
  replace hf := xi_neg hf qs1_6
  by_cases qs1_7 : a0 = 7
  · replace hf := xi_pos hf qs1_7
    refine XS.go (s_tswI (tgt := 102) rfl (by rw [qs1_7]; decide) (by rw [qs1_7]; decide) (by rw [qs1_7]; rfl) rfl) ?_
    refine XS.go (s_aloadn rfl rfl rfl) ?_
    refine XS.go (s_getie rfl xf12_391 (LY.lt (by simp only [LY_si, LY_sj]; exact L0) (by decide)) (LY.k1262 (by simp only [LY_si, LY_sj]; exact L0)) (by decide) rfl (hi_hsi_nk (by decide))) ?_
    cases hf
    exact XR.reti rfl rfl (fun hret => ⟨_, hret, ⟨rfl, rfl⟩, (by simp only [LY_si, LY_sj]; exact L0)⟩)
  replace hf := xi_neg hf qs1_7
  by_cases qs1_8 : a0 = 8
  · replace hf := xi_pos hf qs1_8
    refine XS.go (s_tswI (tgt := 107) rfl (by rw [qs1_8]; decide) (by rw [qs1_8]; decide) (by rw [qs1_8]; rfl) rfl) ?_
    refine XS.go (s_aloadn rfl rfl rfl) ?_
    refine XS.go (s_getie rfl xf12_447 (LY.lt (by simp only [LY_si, LY_sj]; exact L0) (by decide)) (LY.k1262 (by simp only [LY_si, LY_sj]; exact L0)) (by decide) rfl (hi_hsi_nk (by decide))) ?_
    cases hf
    exact XR.reti rfl rfl (fun hret => ⟨_, hret, ⟨rfl, rfl⟩, (by simp only [LY_si, LY_sj]; exact L0)⟩)
  replace hf := xi_neg hf qs1_8
  have qs1_o : (a0).toInt < 0 ∨ 8 < (a0).toInt := by
    refine tsw_out 0 8 (by decide) ?_
    intro k h1 h2
    have z : k = 0 ∨ k = 1 ∨ k = 2 ∨ k = 3 ∨ k = 4 ∨ k = 5 ∨ k = 6 ∨ k = 7 ∨ k = 8 := by omega
    rcases z with rfl | rfl | rfl | rfl | rfl | rfl | rfl | rfl | rfl
    · exact qs1_0
    · exact qs1_1
    · exact qs1_2
    · exact qs1_3
    · exact qs1_4
    · exact qs1_5
    · exact qs1_6
    · exact qs1_7
    · exact qs1_8
  refine XS.go (s_tswO (tgt := 112) rfl qs1_o rfl) ?_
  refine XS.go (s_iconst (v := (-1)) rfl rfl) ?_
  cases hf
  exact XR.reti rfl rfl (fun hret => ⟨_, hret, ⟨rfl, rfl⟩, (by simp only [LY_si, LY_sj]; exact L0)⟩)
def f_m_wrong (a0 : Int32) (a1 : Int32) (h : XH) : Option (Unit × XH) := (if ¬ (hi h 1262 76) = 0 then (some ((), h)) else (some ((), (hsi (hsi h 1262 76 a0) 1262 77 a1))))
set_option maxRecDepth 20000 in
theorem kf_m_wrong {l : Launch} {G : XG} {d : Nat} {a0 : Int32} {a1 : Int32} {h : XH} {r : Unit × XH} (L0 : LY h) (hf : f_m_wrong a0 a1 h = some r) : XC l G xEX12_wrong d [.ref 1262, .int a0, .int a1] h (fun v h2 => (h2 = r.2 ∧ v = none) ∧ LY r.2) := by
  refine XC.virt xvX12_wrong (Nat.le_of_ble_eq_true rfl) ?_
  unfold f_m_wrong at hf
  refine XR.norm (L3 := [some (.ref 1262), some (.int a0), some (.int a1)]) rfl ?_
  refine XS.go (s_aloadn rfl rfl rfl) ?_
  refine XS.go (s_getie rfl xf12_450 (LY.lt L0 (by decide)) (LY.k1262 L0) (by decide) rfl rfl) ?_
  refine r_if_ne (tgt := 17) rfl rfl (fun qc1 => ?_) (fun qc1 => ?_)
  · replace hf := xi_pos hf qc1
    cases hf
    exact XR.retv rfl rfl (fun hret => ⟨_, hret, ⟨rfl, rfl⟩, L0⟩)
  · replace hf := xi_neg hf qc1
    refine XS.go (s_aloadn rfl rfl rfl) ?_
    refine XS.go (s_iloadn rfl rfl rfl) ?_
    refine XS.go (s_puti rfl xf12_450 (LY.lt L0 (by decide)) (LY.k1262 L0) (by decide) rfl (Or.inl rfl)) ?_
    refine XS.go (s_aloadn rfl rfl rfl) ?_
    refine XS.go (s_iloadn rfl rfl rfl) ?_
    refine XS.go (s_puti rfl xf12_453 (LY.lt (by simp only [LY_si, LY_sj]; exact L0) (by decide)) (LY.k1262 (by simp only [LY_si, LY_sj]; exact L0)) (by decide) rfl (Or.inl rfl)) ?_
    cases hf
    exact XR.retv rfl rfl (fun hret => ⟨_, hret, ⟨rfl, rfl⟩, (by simp only [LY_si, LY_sj]; exact L0)⟩)
def s_m_number_7 (K7 : Int32 → Int64 → Int32 → XH → Option (Int64 × XH)) (x1 : Int32) (x3 : Int64) (x5 : Int32) (h : XH) : Option (Int64 × XH) := (if x5 < 0 then (some (x3, h)) else (if 0 ≤ (x1 + x5) ∧ (x1 + x5) < nI 4000 then (K7 x1 ((x3 <<< ((Int32.toInt64 8) &&& 63)) ||| (Int32.toInt64 (hi h 1310 (Int32.toNatClampNeg (x1 + x5))))) (x5 + (-1)) h) else none))
set_option maxRecDepth 20000 in
theorem ks_m_number_7 {l : Launch} {G : XG} {d : Nat} {K7 : Int32 → Int64 → Int32 → XH → Option (Int64 × XH)} {x1 : Int32} {x3 : Int64} {x5 : Int32} {h : XH} {r : Int64 × XH} (hK7 : ∀ (x1 : Int32) (x3 : Int64) (x5 : Int32) (h : XH), LY h → K7 x1 x3 x5 h = some r → XR l G xEX12_number d (7, [some (.ref 1262), some (.int x1), none, some (.long x3), none, some (.int x5)], [], h) (fun C => ∃ v, xRet xEX12_number C v ∧ (C.2.2.2 = r.2 ∧ v = some (.long r.1)) ∧ LY r.2)) (L0 : LY h) (hf : s_m_number_7 K7 x1 x3 x5 h = some r) : XR l G xEX12_number d (7, [some (.ref 1262), some (.int x1), none, some (.long x3), none, some (.int x5)], [], h) (fun C => ∃ v, xRet xEX12_number C v ∧ (C.2.2.2 = r.2 ∧ v = some (.long r.1)) ∧ LY r.2) := by
  unfold s_m_number_7 at hf
  refine XS.go (s_iload rfl rfl) ?_
  refine r_if_lt (tgt := 34) rfl rfl (fun qc1 => ?_) (fun qc1 => ?_)
  · replace hf := xi_pos hf qc1
    refine XS.go (s_lloadn rfl rfl rfl) ?_
    cases hf
    exact XR.retl rfl rfl (fun hret => ⟨_, hret, ⟨rfl, rfl⟩, L0⟩)
  · replace hf := xi_neg hf qc1
    refine XS.go (s_lloadn rfl rfl rfl) ?_
    refine XS.go (s_bipush (v := 8) rfl rfl) ?_
    refine XS.go (s_lshl rfl) ?_
    refine XS.go (s_aloadn rfl rfl rfl) ?_
    refine XS.go (s_getr rfl xf12_157 (LY.lt L0 (by decide)) (LY.k1262 L0) (by decide) rfl (LY.r1262_74 L0)) ?_
    refine XS.go (s_iloadn rfl rfl rfl) ?_
    refine XS.go (s_iload rfl rfl) ?_
    refine XS.go (s_iadd rfl) ?_
    replace hf := xi_none hf
    obtain ⟨qk2, hf⟩ := hf
    refine XS.go (s_ialde rfl (LY.lt L0 (by decide)) (LY.k1310 L0) (inLit (LY.n1310 L0) qk2.1 qk2.2 (by decide)) rfl) ?_
    refine XS.go (s_i2l rfl) ?_
    refine XS.go (s_lor rfl) ?_
    refine XS.go (XS.lcl (L3 := [some (.ref 1262), some (.int x1), none, some (.long ((x3 <<< ((Int32.toInt64 8) &&& 63)) ||| (Int32.toInt64 (hi h 1310 (Int32.toNatClampNeg (x1 + x5)))))), none, some (.int x5)]) (s_lstoren rfl rfl (Nat.le_of_ble_eq_true rfl)) rfl) ?_
    refine XS.go (XS.lcl (L3 := [some (.ref 1262), some (.int x1), none, some (.long ((x3 <<< ((Int32.toInt64 8) &&& 63)) ||| (Int32.toInt64 (hi h 1310 (Int32.toNatClampNeg (x1 + x5)))))), none, some (.int (x5 + (-1)))]) (s_dec rfl rfl (Nat.le_of_ble_eq_true rfl)) rfl) ?_
    refine XS.go (s_goto (tgt := 7) rfl rfl) ?_
    exact XR.forget (L2 := [some (.ref 1262), some (.int x1), none, some (.long ((x3 <<< ((Int32.toInt64 8) &&& 63)) ||| (Int32.toInt64 (hi h 1310 (Int32.toNatClampNeg (x1 + x5)))))), none, some (.int (x5 + (-1)))]) ⟨rfl, ⟨rfl, ⟨rfl, ⟨rfl, trivial⟩⟩⟩⟩ (hK7 x1 ((x3 <<< ((Int32.toInt64 8) &&& 63)) ||| (Int32.toInt64 (hi h 1310 (Int32.toNatClampNeg (x1 + x5))))) (x5 + (-1)) _ L0 hf)
def b_m_number_7 : Nat → Int32 → Int64 → Int32 → XH → Option (Int64 × XH)
  | 0, _, _, _, _ => none
  | n + 1, x1, x3, x5, h => s_m_number_7 (b_m_number_7 n) x1 x3 x5 h
theorem kb_m_number_7 {l : Launch} {G : XG} {d : Nat} {n : Nat} {x1 : Int32} {x3 : Int64} {x5 : Int32} {h : XH} {r : Int64 × XH} (L0 : LY h) (hf : b_m_number_7 n x1 x3 x5 h = some r) : XR l G xEX12_number d (7, [some (.ref 1262), some (.int x1), none, some (.long x3), none, some (.int x5)], [], h) (fun C => ∃ v, xRet xEX12_number C v ∧ (C.2.2.2 = r.2 ∧ v = some (.long r.1)) ∧ LY r.2) := by
  induction n generalizing x1 x3 x5 h with
  | zero => cases hf
  | succ n ih => exact ks_m_number_7 (fun x1 x3 x5 h L0 hf => ih (h := h) (x1 := x1) (x3 := x3) (x5 := x5) L0 hf) L0 hf
def f_m_number (a0 : Int32) (a1 : Int32) (h : XH) : Option (Int64 × XH) := (b_m_number_7 100000 a0 (0 : Int64) (a1 - 1) h)
set_option maxRecDepth 20000 in
theorem kf_m_number {l : Launch} {G : XG} {d : Nat} {a0 : Int32} {a1 : Int32} {h : XH} {r : Int64 × XH} (L0 : LY h) (hf : f_m_number a0 a1 h = some r) : XC l G xEX12_number d [.ref 1262, .int a0, .int a1] h (fun v h2 => (h2 = r.2 ∧ v = some (.long r.1)) ∧ LY r.2) := by
  refine XC.virt xvX12_number (Nat.le_of_ble_eq_true rfl) ?_
  unfold f_m_number at hf
  refine XR.norm (L3 := [some (.ref 1262), some (.int a0), some (.int a1), none, none, none]) rfl ?_
  refine XS.go (s_lconst (v := 0) rfl rfl) ?_
  refine XS.go (XS.lcl (L3 := [some (.ref 1262), some (.int a0), some (.int a1), some (.long (0 : Int64)), none, none]) (s_lstoren rfl rfl (Nat.le_of_ble_eq_true rfl)) rfl) ?_
  refine XS.go (s_iloadn rfl rfl rfl) ?_
  refine XS.go (s_iconst (v := 1) rfl rfl) ?_
  refine XS.go (s_isub rfl) ?_
  refine XS.go (XS.lcl (L3 := [some (.ref 1262), some (.int a0), some (.int a1), some (.long (0 : Int64)), none, some (.int (a1 - 1))]) (s_istore rfl (Nat.le_of_ble_eq_true rfl)) rfl) ?_
  exact XR.forget (L2 := [some (.ref 1262), some (.int a0), none, some (.long (0 : Int64)), none, some (.int (a1 - 1))]) ⟨rfl, ⟨rfl, ⟨rfl, ⟨rfl, trivial⟩⟩⟩⟩ (kb_m_number_7 L0 hf)
