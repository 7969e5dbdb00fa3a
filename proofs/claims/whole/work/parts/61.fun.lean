/-! Methods as functions of the heap -/
def f_m_isThing (a0 : Int64) (a1 : Int32) (a2 : Int32) (a3 : Int32) (h : XH) : Option (Int32 × XH) := (if (lg_cmp a0 (0 : Int64)) < 0 then (some (0, h)) else (if (lg_cmp a0 (Int32.toInt64 (hi h 1262 59))) < 0 then (if 0 ≤ (Int64.toInt32 a0) ∧ (Int64.toInt32 a0) < nI 300 then (if ¬ (hi h 1300 (Int32.toNatClampNeg (Int64.toInt32 a0))) = a1 then (some (0, h)) else (if ¬ (hi h 1301 (Int32.toNatClampNeg (Int64.toInt32 a0))) = a2 then (some (0, h)) else (if ¬ (hi h 1302 (Int32.toNatClampNeg (Int64.toInt32 a0))) = a3 then (some (0, h)) else (some (1, h))))) else none) else (some (0, h))))
set_option maxRecDepth 20000 in
theorem kf_m_isThing {l : Launch} {G : XG} {d : Nat} {a0 : Int64} {a1 : Int32} {a2 : Int32} {a3 : Int32} {h : XH} {r : Int32 × XH} (L0 : LY h) (hf : f_m_isThing a0 a1 a2 a3 h = some r) : XC l G xEX12_isThing d [.ref 1262, .long a0, .int a1, .int a2, .int a3] h (fun v h2 => (h2 = r.2 ∧ v = some (.int r.1)) ∧ LY r.2) := by
  refine XC.virt xvX12_isThing (Nat.le_of_ble_eq_true rfl) ?_
  unfold f_m_isThing at hf
  refine XR.norm (L3 := [some (.ref 1262), some (.long a0), none, some (.int a1), some (.int a2), some (.int a3), none]) rfl ?_
  refine XS.go (s_lloadn rfl rfl rfl) ?_
  refine XS.go (s_lconst (v := 0) rfl rfl) ?_
  refine XS.go (s_lcmp rfl) ?_
  refine r_if_lt (tgt := 16) rfl rfl (fun qc1 => ?_) (fun qc1 => ?_)
  · replace hf := xi_pos hf qc1
    refine XS.go (s_iconst (v := 0) rfl rfl) ?_
    cases hf
    exact XR.retz rfl rfl (by decide) (fun hret => ⟨_, hret, ⟨rfl, rfl⟩, L0⟩)
  · replace hf := xi_neg hf qc1
    refine XS.go (s_lloadn rfl rfl rfl) ?_
    refine XS.go (s_aloadn rfl rfl rfl) ?_
    refine XS.go (s_getie rfl xf12_388 (LY.lt L0 (by decide)) (LY.k1262 L0) (by decide) rfl rfl) ?_
    refine XS.go (s_i2l rfl) ?_
    refine XS.go (s_lcmp rfl) ?_
    refine r_if_lt (tgt := 18) rfl rfl (fun qc2 => ?_) (fun qc2 => ?_)
    · replace hf := xi_pos hf qc2
      refine XS.go (s_lloadn rfl rfl rfl) ?_
      refine XS.go (s_l2i rfl) ?_
      refine XS.go (XS.lcl (L3 := [some (.ref 1262), some (.long a0), none, some (.int a1), some (.int a2), some (.int a3), some (.int (Int64.toInt32 a0))]) (s_istore rfl (Nat.le_of_ble_eq_true rfl)) rfl) ?_
      refine XS.go (s_aloadn rfl rfl rfl) ?_
      refine XS.go (s_getr rfl xf12_122 (LY.lt L0 (by decide)) (LY.k1262 L0) (by decide) rfl (LY.r1262_60 L0)) ?_
      refine XS.go (s_iload rfl rfl) ?_
      replace hf := xi_none hf
      obtain ⟨qk3, hf⟩ := hf
      refine XS.go (s_ialde rfl (LY.lt L0 (by decide)) (LY.k1300 L0) (inLit (LY.n1300 L0) qk3.1 qk3.2 (by decide)) rfl) ?_
      refine XS.go (s_iloadn rfl rfl rfl) ?_
      refine r_icmp_ne (tgt := 61) rfl rfl (fun qc4 => ?_) (fun qc4 => ?_)
      · replace hf := xi_pos hf qc4
        refine XS.go (s_iconst (v := 0) rfl rfl) ?_
        cases hf
        exact XR.retz rfl rfl (by decide) (fun hret => ⟨_, hret, ⟨rfl, rfl⟩, L0⟩)
      · replace hf := xi_neg hf qc4
        refine XS.go (s_aloadn rfl rfl rfl) ?_
        refine XS.go (s_getr rfl xf12_125 (LY.lt L0 (by decide)) (LY.k1262 L0) (by decide) rfl (LY.r1262_61 L0)) ?_
        refine XS.go (s_iload rfl rfl) ?_
        refine XS.go (s_ialde rfl (LY.lt L0 (by decide)) (LY.k1301 L0) (inLit (LY.n1301 L0) qk3.1 qk3.2 (by decide)) rfl) ?_
        refine XS.go (s_iload rfl rfl) ?_
        refine r_icmp_ne (tgt := 61) rfl rfl (fun qc5 => ?_) (fun qc5 => ?_)
        · replace hf := xi_pos hf qc5
          refine XS.go (s_iconst (v := 0) rfl rfl) ?_
          cases hf
          exact XR.retz rfl rfl (by decide) (fun hret => ⟨_, hret, ⟨rfl, rfl⟩, L0⟩)
        · replace hf := xi_neg hf qc5
          refine XS.go (s_aloadn rfl rfl rfl) ?_
          refine XS.go (s_getr rfl xf12_128 (LY.lt L0 (by decide)) (LY.k1262 L0) (by decide) rfl (LY.r1262_62 L0)) ?_
          refine XS.go (s_iload rfl rfl) ?_
          refine XS.go (s_ialde rfl (LY.lt L0 (by decide)) (LY.k1302 L0) (inLit (LY.n1302 L0) qk3.1 qk3.2 (by decide)) rfl) ?_
          refine XS.go (s_iload rfl rfl) ?_
          refine r_icmp_ne (tgt := 61) rfl rfl (fun qc6 => ?_) (fun qc6 => ?_)
          · replace hf := xi_pos hf qc6
            refine XS.go (s_iconst (v := 0) rfl rfl) ?_
            cases hf
            exact XR.retz rfl rfl (by decide) (fun hret => ⟨_, hret, ⟨rfl, rfl⟩, L0⟩)
          · replace hf := xi_neg hf qc6
            refine XS.go (s_iconst (v := 1) rfl rfl) ?_
            refine XS.go (s_goto (tgt := 62) rfl rfl) ?_
            cases hf
            exact XR.retz rfl rfl (by decide) (fun hret => ⟨_, hret, ⟨rfl, rfl⟩, L0⟩)
    · replace hf := xi_neg hf qc2
      refine XS.go (s_iconst (v := 0) rfl rfl) ?_
      cases hf
      exact XR.retz rfl rfl (by decide) (fun hret => ⟨_, hret, ⟨rfl, rfl⟩, L0⟩)
def s_m_areOfStruct_2 (K2 : Int32 → Int32 → Int32 → XH → Option (Int32 × XH)) (x1 : Int32) (x2 : Int32) (x3 : Int32) (h : XH) : Option (Int32 × XH) := (if 0 ≤ x1 ∧ x1 < nI 12 then (if (hi h 1280 (Int32.toNatClampNeg x1)) ≤ x3 then (some (1, h)) else (if 0 ≤ ((128 * x1) + x3) ∧ ((128 * x1) + x3) < nI 1536 then (if 0 ≤ (x2 + x3) ∧ (x2 + x3) < nI 600 then (Option.bind (f_m_isValue (hi h 1281 (Int32.toNatClampNeg ((128 * x1) + x3))) (hj h 1298 (Int32.toNatClampNeg (x2 + x3))) h) fun r5 => (if ¬ r5.1 = 0 then (K2 x1 x2 (x3 + 1) r5.2) else (some (0, r5.2)))) else none) else none)) else none)
set_option maxRecDepth 20000 in
theorem ks_m_areOfStruct_2 {l : Launch} {G : XG} {d : Nat} {K2 : Int32 → Int32 → Int32 → XH → Option (Int32 × XH)} {x1 : Int32} {x2 : Int32} {x3 : Int32} {h : XH} {r : Int32 × XH} (hK2 : ∀ (x1 : Int32) (x2 : Int32) (x3 : Int32) (h : XH), LY h → K2 x1 x2 x3 h = some r → XR l G xEX12_areOfStruct (d + 2) (2, [some (.ref 1262), some (.int x1), some (.int x2), some (.int x3)], [], h) (fun C => ∃ v, xRet xEX12_areOfStruct C v ∧ (C.2.2.2 = r.2 ∧ v = some (.int r.1)) ∧ LY r.2)) (L0 : LY h) (hf : s_m_areOfStruct_2 K2 x1 x2 x3 h = some r) : XR l G xEX12_areOfStruct (d + 2) (2, [some (.ref 1262), some (.int x1), some (.int x2), some (.int x3)], [], h) (fun C => ∃ v, xRet xEX12_areOfStruct C v ∧ (C.2.2.2 = r.2 ∧ v = some (.int r.1)) ∧ LY r.2) := by
  unfold s_m_areOfStruct_2 at hf
  refine XS.go (s_iloadn rfl rfl rfl) ?_
  refine XS.go (s_aloadn rfl rfl rfl) ?_
  refine XS.go (s_getr rfl xf12_61 (LY.lt L0 (by decide)) (LY.k1262 L0) (by decide) rfl (LY.r1262_28 L0)) ?_
  refine XS.go (s_iloadn rfl rfl rfl) ?_
  replace hf := xi_none hf
  obtain ⟨qk1, hf⟩ := hf
  refine XS.go (s_ialde rfl (LY.lt L0 (by decide)) (LY.k1280 L0) (inLit (LY.n1280 L0) qk1.1 qk1.2 (by decide)) rfl) ?_
  refine r_icmp_ge (tgt := 46) rfl rfl (fun qc2 => ?_) (fun qc2 => ?_)
  · replace hf := xi_pos hf qc2
    refine XS.go (s_iconst (v := 1) rfl rfl) ?_
    cases hf
    exact XR.retz rfl rfl (by decide) (fun hret => ⟨_, hret, ⟨rfl, rfl⟩, L0⟩)
  · replace hf := xi_neg hf qc2
    refine XS.go (s_aloadn rfl rfl rfl) ?_
    refine XS.go (s_getr rfl xf12_64 (LY.lt L0 (by decide)) (LY.k1262 L0) (by decide) rfl (LY.r1262_29 L0)) ?_
    refine XS.go (s_sipush (v := 128) rfl rfl) ?_
    refine XS.go (s_iloadn rfl rfl rfl) ?_
    refine XS.go (s_imul rfl) ?_
    refine XS.go (s_iloadn rfl rfl rfl) ?_
    refine XS.go (s_iadd rfl) ?_
    replace hf := xi_none hf
    obtain ⟨qk3, hf⟩ := hf
    refine XS.go (s_ialde rfl (LY.lt L0 (by decide)) (LY.k1281 L0) (inLit (LY.n1281 L0) qk3.1 qk3.2 (by decide)) rfl) ?_
    refine XS.go (s_aloadn rfl rfl rfl) ?_
    refine XS.go (s_getr rfl xf12_116 (LY.lt L0 (by decide)) (LY.k1262 L0) (by decide) rfl (LY.r1262_54 L0)) ?_
    refine XS.go (s_iloadn rfl rfl rfl) ?_
    refine XS.go (s_iloadn rfl rfl rfl) ?_
    refine XS.go (s_iadd rfl) ?_
    replace hf := xi_none hf
    obtain ⟨qk4, hf⟩ := hf
    refine XS.go (s_lalde rfl (LY.lt L0 (by decide)) (LY.k1298 L0) (inLit (LY.n1298 L0) qk4.1 qk4.2 (by decide)) rfl) ?_
    replace hf := xb_some hf
    obtain ⟨r5, e6, hf⟩ := hf
    refine r_calls rfl xsX12_isValue xm12_334 (kf_m_isValue (d := d) L0 e6) rfl rfl (dl (by decide)) (by decide) (Nat.le_of_ble_eq_true rfl) ?_
    rintro _ _ ⟨⟨rfl, rfl⟩, L7⟩
    refine r_if_ne (tgt := 40) rfl rfl (fun qc8 => ?_) (fun qc8 => ?_)
    · replace hf := xi_pos hf qc8
      refine XS.go (XS.lcl (L3 := [some (.ref 1262), some (.int x1), some (.int x2), some (.int (x3 + 1))]) (s_inc rfl rfl (Nat.le_of_ble_eq_true rfl)) rfl) ?_
      refine XS.go (s_goto (tgt := 2) rfl rfl) ?_
      exact XR.forget (L2 := [some (.ref 1262), some (.int x1), some (.int x2), some (.int (x3 + 1))]) ⟨rfl, ⟨rfl, ⟨rfl, ⟨rfl, trivial⟩⟩⟩⟩ (hK2 x1 x2 (x3 + 1) _ L7 hf)
    · replace hf := xi_neg hf qc8
      refine XS.go (s_iconst (v := 0) rfl rfl) ?_
      cases hf
      exact XR.retz rfl rfl (by decide) (fun hret => ⟨_, hret, ⟨rfl, rfl⟩, L7⟩)
def b_m_areOfStruct_2 : Nat → Int32 → Int32 → Int32 → XH → Option (Int32 × XH)
  | 0, _, _, _, _ => none
  | n + 1, x1, x2, x3, h => s_m_areOfStruct_2 (b_m_areOfStruct_2 n) x1 x2 x3 h
theorem kb_m_areOfStruct_2 {l : Launch} {G : XG} {d : Nat} {n : Nat} {x1 : Int32} {x2 : Int32} {x3 : Int32} {h : XH} {r : Int32 × XH} (L0 : LY h) (hf : b_m_areOfStruct_2 n x1 x2 x3 h = some r) : XR l G xEX12_areOfStruct (d + 2) (2, [some (.ref 1262), some (.int x1), some (.int x2), some (.int x3)], [], h) (fun C => ∃ v, xRet xEX12_areOfStruct C v ∧ (C.2.2.2 = r.2 ∧ v = some (.int r.1)) ∧ LY r.2) := by
  induction n generalizing x1 x2 x3 h with
  | zero => cases hf
  | succ n ih => exact ks_m_areOfStruct_2 (fun x1 x2 x3 h L0 hf => ih (h := h) (x1 := x1) (x2 := x2) (x3 := x3) L0 hf) L0 hf
def f_m_areOfStruct (a0 : Int32) (a1 : Int32) (h : XH) : Option (Int32 × XH) := (b_m_areOfStruct_2 100000 a0 a1 0 h)
set_option maxRecDepth 20000 in
theorem kf_m_areOfStruct {l : Launch} {G : XG} {d : Nat} {a0 : Int32} {a1 : Int32} {h : XH} {r : Int32 × XH} (L0 : LY h) (hf : f_m_areOfStruct a0 a1 h = some r) : XC l G xEX12_areOfStruct (d + 2) [.ref 1262, .int a0, .int a1] h (fun v h2 => (h2 = r.2 ∧ v = some (.int r.1)) ∧ LY r.2) := by
  refine XC.virt xvX12_areOfStruct (Nat.le_of_ble_eq_true rfl) ?_
  unfold f_m_areOfStruct at hf
  refine XR.norm (L3 := [some (.ref 1262), some (.int a0), some (.int a1), none]) rfl ?_
  refine XS.go (s_iconst (v := 0) rfl rfl) ?_
  refine XS.go (XS.lcl (L3 := [some (.ref 1262), some (.int a0), some (.int a1), some (.int 0)]) (s_istoren rfl rfl (Nat.le_of_ble_eq_true rfl)) rfl) ?_
  exact XR.forget (L2 := [some (.ref 1262), some (.int a0), some (.int a1), some (.int 0)]) ⟨rfl, ⟨rfl, ⟨rfl, ⟨rfl, trivial⟩⟩⟩⟩ (kb_m_areOfStruct_2 L0 hf)
def s_m_putStruct_17 (K17 : Int32 → Int32 → Int32 → Int32 → XH → Option (Unit × XH)) (x1 : Int32) (x2 : Int32) (x3 : Int32) (x4 : Int32) (h : XH) : Option (Unit × XH) := (if x4 < 0 then (Option.bind (f_m_zeros x3 h) fun r2 => (some ((), r2.2))) else (if 0 ≤ ((128 * x1) + x4) ∧ ((128 * x1) + x4) < nI 1536 then (Option.bind (f_m_bytesOf (hi h 1281 (Int32.toNatClampNeg ((128 * x1) + x4))) h) fun r6 => (Option.bind (f_m_zeros ((x3 - (hi h 1282 (Int32.toNatClampNeg ((128 * x1) + x4)))) - r6.1) r6.2) fun r9 => (if 0 ≤ (x2 + x4) ∧ (x2 + x4) < nI 600 then (Option.bind (f_m_bytesOf (hi h 1281 (Int32.toNatClampNeg ((128 * x1) + x4))) r9.2) fun r13 => (Option.bind (f_m_ahead (hj r9.2 1298 (Int32.toNatClampNeg (x2 + x4))) r13.1 r13.2) fun r16 => (K17 x1 x2 (hi h 1282 (Int32.toNatClampNeg ((128 * x1) + x4))) (x4 + (-1)) r16.2))) else none))) else none))
set_option maxRecDepth 20000 in
theorem ks_m_putStruct_17 {l : Launch} {G : XG} {d : Nat} {K17 : Int32 → Int32 → Int32 → Int32 → XH → Option (Unit × XH)} {x1 : Int32} {x2 : Int32} {x3 : Int32} {x4 : Int32} {h : XH} {r : Unit × XH} (hK17 : ∀ (x1 : Int32) (x2 : Int32) (x3 : Int32) (x4 : Int32) (h : XH), LY h → K17 x1 x2 x3 x4 h = some r → XR l G xEX12_putStruct (d + 1) (17, [some (.ref 1262), some (.int x1), some (.int x2), some (.int x3), some (.int x4), none, none], [], h) (fun C => ∃ v, xRet xEX12_putStruct C v ∧ (C.2.2.2 = r.2 ∧ v = none) ∧ LY r.2)) (L0 : LY h) (hf : s_m_putStruct_17 K17 x1 x2 x3 x4 h = some r) : XR l G xEX12_putStruct (d + 1) (17, [some (.ref 1262), some (.int x1), some (.int x2), some (.int x3), some (.int x4), none, none], [], h) (fun C => ∃ v, xRet xEX12_putStruct C v ∧ (C.2.2.2 = r.2 ∧ v = none) ∧ LY r.2) := by
  unfold s_m_putStruct_17 at hf
  refine XS.go (s_iload rfl rfl) ?_
  refine r_if_lt (tgt := 93) rfl rfl (fun qc1 => ?_) (fun qc1 => ?_)
  · replace hf := xi_pos hf qc1
    refine XS.go (s_aloadn rfl rfl rfl) ?_
    refine XS.go (s_iloadn rfl rfl rfl) ?_
    replace hf := xb_some hf
    obtain ⟨r2, e3, hf⟩ := hf
    refine r_callv rfl xvX12_zeros xm12_407 (kf_m_zeros (d := d) L0 e3) (LY.lt L0 (by decide)) (LY.k1262 L0) (by decide) rfl rfl (dl0 (by decide)) (by decide) (Nat.le_of_ble_eq_true rfl) ?_
    rintro _ _ ⟨⟨rfl, rfl⟩, L4⟩
    cases hf
    exact XR.retv rfl rfl (fun hret => ⟨_, hret, ⟨rfl, rfl⟩, L4⟩)
  · replace hf := xi_neg hf qc1
    refine XS.go (s_aloadn rfl rfl rfl) ?_
    refine XS.go (s_getr rfl xf12_64 (LY.lt L0 (by decide)) (LY.k1262 L0) (by decide) rfl (LY.r1262_29 L0)) ?_
    refine XS.go (s_sipush (v := 128) rfl rfl) ?_
    refine XS.go (s_iloadn rfl rfl rfl) ?_
    refine XS.go (s_imul rfl) ?_
    refine XS.go (s_iload rfl rfl) ?_
    refine XS.go (s_iadd rfl) ?_
    replace hf := xi_none hf
    obtain ⟨qk5, hf⟩ := hf
    refine XS.go (s_ialde rfl (LY.lt L0 (by decide)) (LY.k1281 L0) (inLit (LY.n1281 L0) qk5.1 qk5.2 (by decide)) rfl) ?_
    refine XS.go (XS.lcl (L3 := [some (.ref 1262), some (.int x1), some (.int x2), some (.int x3), some (.int x4), some (.int (hi h 1281 (Int32.toNatClampNeg ((128 * x1) + x4)))), none]) (s_istore rfl (Nat.le_of_ble_eq_true rfl)) rfl) ?_
    refine XS.go (s_aloadn rfl rfl rfl) ?_
    refine XS.go (s_getr rfl xf12_67 (LY.lt L0 (by decide)) (LY.k1262 L0) (by decide) rfl (LY.r1262_30 L0)) ?_
    refine XS.go (s_sipush (v := 128) rfl rfl) ?_
    refine XS.go (s_iloadn rfl rfl rfl) ?_
    refine XS.go (s_imul rfl) ?_
    refine XS.go (s_iload rfl rfl) ?_
    refine XS.go (s_iadd rfl) ?_
    refine XS.go (s_ialde rfl (LY.lt L0 (by decide)) (LY.k1282 L0) (inLit (LY.n1282 L0) qk5.1 qk5.2 (by decide)) rfl) ?_
    refine XS.go (XS.lcl (L3 := [some (.ref 1262), some (.int x1), some (.int x2), some (.int x3), some (.int x4), some (.int (hi h 1281 (Int32.toNatClampNeg ((128 * x1) + x4)))), some (.int (hi h 1282 (Int32.toNatClampNeg ((128 * x1) + x4))))]) (s_istore rfl (Nat.le_of_ble_eq_true rfl)) rfl) ?_
    refine XS.go (s_aloadn rfl rfl rfl) ?_
    refine XS.go (s_iloadn rfl rfl rfl) ?_
    refine XS.go (s_iload rfl rfl) ?_
    refine XS.go (s_isub rfl) ?_
    refine XS.go (s_iload rfl rfl) ?_
    replace hf := xb_some hf
    obtain ⟨r6, e7, hf⟩ := hf
    refine r_calls rfl xsX12_bytesOf xm12_315 (kf_m_bytesOf (d := d) L0 e7) rfl rfl (dl0 (by decide)) (by decide) (Nat.le_of_ble_eq_true rfl) ?_
    rintro _ _ ⟨⟨rfl, rfl⟩, L8⟩
    refine XS.go (s_isub rfl) ?_
    replace hf := xb_some hf
    obtain ⟨r9, e10, hf⟩ := hf
    refine r_callv rfl xvX12_zeros xm12_407 (kf_m_zeros (d := d) L8 e10) (LY.lt L8 (by decide)) (LY.k1262 L8) (by decide) rfl rfl (dl0 (by decide)) (by decide) (Nat.le_of_ble_eq_true rfl) ?_
    rintro _ _ ⟨⟨rfl, rfl⟩, L11⟩
    refine XS.go (s_aloadn rfl rfl rfl) ?_
    refine XS.go (s_aloadn rfl rfl rfl) ?_
    refine XS.go (s_getr rfl xf12_116 (LY.lt L11 (by decide)) (LY.k1262 L11) (by decide) rfl (LY.r1262_54 L11)) ?_
    refine XS.go (s_iloadn rfl rfl rfl) ?_
    refine XS.go (s_iload rfl rfl) ?_
    refine XS.go (s_iadd rfl) ?_
    replace hf := xi_none hf
    obtain ⟨qk12, hf⟩ := hf
    refine XS.go (s_lalde rfl (LY.lt L11 (by decide)) (LY.k1298 L11) (inLit (LY.n1298 L11) qk12.1 qk12.2 (by decide)) rfl) ?_
    refine XS.go (s_iload rfl rfl) ?_
    replace hf := xb_some hf
    obtain ⟨r13, e14, hf⟩ := hf
    refine r_calls rfl xsX12_bytesOf xm12_315 (kf_m_bytesOf (d := d) L11 e14) rfl rfl (dl0 (by decide)) (by decide) (Nat.le_of_ble_eq_true rfl) ?_
    rintro _ _ ⟨⟨rfl, rfl⟩, L15⟩
    replace hf := xb_some hf
    obtain ⟨r16, e17, hf⟩ := hf
    refine r_callv rfl xvX12_ahead xm12_396 (kf_m_ahead (d := d) L15 e17) (LY.lt L15 (by decide)) (LY.k1262 L15) (by decide) rfl rfl (dl0 (by decide)) (by decide) (Nat.le_of_ble_eq_true rfl) ?_
    rintro _ _ ⟨⟨rfl, rfl⟩, L18⟩
    refine XS.go (s_iload rfl rfl) ?_
    refine XS.go (XS.lcl (L3 := [some (.ref 1262), some (.int x1), some (.int x2), some (.int (hi h 1282 (Int32.toNatClampNeg ((128 * x1) + x4)))), some (.int x4), some (.int (hi h 1281 (Int32.toNatClampNeg ((128 * x1) + x4)))), some (.int (hi h 1282 (Int32.toNatClampNeg ((128 * x1) + x4))))]) (s_istoren rfl rfl (Nat.le_of_ble_eq_true rfl)) rfl) ?_
    refine XS.go (XS.lcl (L3 := [some (.ref 1262), some (.int x1), some (.int x2), some (.int (hi h 1282 (Int32.toNatClampNeg ((128 * x1) + x4)))), some (.int (x4 + (-1))), some (.int (hi h 1281 (Int32.toNatClampNeg ((128 * x1) + x4)))), some (.int (hi h 1282 (Int32.toNatClampNeg ((128 * x1) + x4))))]) (s_dec rfl rfl (Nat.le_of_ble_eq_true rfl)) rfl) ?_
    refine XS.go (s_goto (tgt := 17) rfl rfl) ?_
    exact XR.forget (L2 := [some (.ref 1262), some (.int x1), some (.int x2), some (.int (hi h 1282 (Int32.toNatClampNeg ((128 * x1) + x4)))), some (.int (x4 + (-1))), none, none]) ⟨rfl, ⟨rfl, ⟨rfl, ⟨rfl, ⟨rfl, trivial⟩⟩⟩⟩⟩ (hK17 x1 x2 (hi h 1282 (Int32.toNatClampNeg ((128 * x1) + x4))) (x4 + (-1)) _ L18 hf)
def b_m_putStruct_17 : Nat → Int32 → Int32 → Int32 → Int32 → XH → Option (Unit × XH)
  | 0, _, _, _, _, _ => none
  | n + 1, x1, x2, x3, x4, h => s_m_putStruct_17 (b_m_putStruct_17 n) x1 x2 x3 x4 h
theorem kb_m_putStruct_17 {l : Launch} {G : XG} {d : Nat} {n : Nat} {x1 : Int32} {x2 : Int32} {x3 : Int32} {x4 : Int32} {h : XH} {r : Unit × XH} (L0 : LY h) (hf : b_m_putStruct_17 n x1 x2 x3 x4 h = some r) : XR l G xEX12_putStruct (d + 1) (17, [some (.ref 1262), some (.int x1), some (.int x2), some (.int x3), some (.int x4), none, none], [], h) (fun C => ∃ v, xRet xEX12_putStruct C v ∧ (C.2.2.2 = r.2 ∧ v = none) ∧ LY r.2) := by
  induction n generalizing x1 x2 x3 x4 h with
  | zero => cases hf
  | succ n ih => exact ks_m_putStruct_17 (fun x1 x2 x3 x4 h L0 hf => ih (h := h) (x1 := x1) (x2 := x2) (x3 := x3) (x4 := x4) L0 hf) L0 hf
def f_m_putStruct (a0 : Int32) (a1 : Int32) (h : XH) : Option (Unit × XH) := (if 0 ≤ a0 ∧ a0 < nI 12 then (b_m_putStruct_17 100000 a0 a1 (hi h 1274 (Int32.toNatClampNeg a0)) ((hi h 1280 (Int32.toNatClampNeg a0)) - 1) h) else none)
set_option maxRecDepth 20000 in
theorem kf_m_putStruct {l : Launch} {G : XG} {d : Nat} {a0 : Int32} {a1 : Int32} {h : XH} {r : Unit × XH} (L0 : LY h) (hf : f_m_putStruct a0 a1 h = some r) : XC l G xEX12_putStruct (d + 1) [.ref 1262, .int a0, .int a1] h (fun v h2 => (h2 = r.2 ∧ v = none) ∧ LY r.2) := by
  refine XC.virt xvX12_putStruct (Nat.le_of_ble_eq_true rfl) ?_
  unfold f_m_putStruct at hf
  refine XR.norm (L3 := [some (.ref 1262), some (.int a0), some (.int a1), none, none, none, none]) rfl ?_
  refine XS.go (s_aloadn rfl rfl rfl) ?_
  refine XS.go (s_getr rfl xf12_43 (LY.lt L0 (by decide)) (LY.k1262 L0) (by decide) rfl (LY.r1262_22 L0)) ?_
  refine XS.go (s_iloadn rfl rfl rfl) ?_
  replace hf := xi_none hf
  obtain ⟨qk19, hf⟩ := hf
  refine XS.go (s_ialde rfl (LY.lt L0 (by decide)) (LY.k1274 L0) (inLit (LY.n1274 L0) qk19.1 qk19.2 (by decide)) rfl) ?_
  refine XS.go (XS.lcl (L3 := [some (.ref 1262), some (.int a0), some (.int a1), some (.int (hi h 1274 (Int32.toNatClampNeg a0))), none, none, none]) (s_istoren rfl rfl (Nat.le_of_ble_eq_true rfl)) rfl) ?_
  refine XS.go (s_aloadn rfl rfl rfl) ?_
  refine XS.go (s_getr rfl xf12_61 (LY.lt L0 (by decide)) (LY.k1262 L0) (by decide) rfl (LY.r1262_28 L0)) ?_
  refine XS.go (s_iloadn rfl rfl rfl) ?_
  refine XS.go (s_ialde rfl (LY.lt L0 (by decide)) (LY.k1280 L0) (inLit (LY.n1280 L0) qk19.1 qk19.2 (by decide)) rfl) ?_
  refine XS.go (s_iconst (v := 1) rfl rfl) ?_
  refine XS.go (s_isub rfl) ?_
  refine XS.go (XS.lcl (L3 := [some (.ref 1262), some (.int a0), some (.int a1), some (.int (hi h 1274 (Int32.toNatClampNeg a0))), some (.int ((hi h 1280 (Int32.toNatClampNeg a0)) - 1)), none, none]) (s_istore rfl (Nat.le_of_ble_eq_true rfl)) rfl) ?_
  exact XR.forget (L2 := [some (.ref 1262), some (.int a0), some (.int a1), some (.int (hi h 1274 (Int32.toNatClampNeg a0))), some (.int ((hi h 1280 (Int32.toNatClampNeg a0)) - 1)), none, none]) ⟨rfl, ⟨rfl, ⟨rfl, ⟨rfl, ⟨rfl, trivial⟩⟩⟩⟩⟩ (kb_m_putStruct_17 L0 hf)
def b_m_vector_452 (y1 : Int32) (y2 : Int32) (y3 : Int32) (h : XH) : Option (Int32 × XH) := (Option.bind (f_m_thing y1 y2 y3 h) fun r1 => (some (r1.1, r1.2)))
set_option maxRecDepth 20000 in
theorem kb_m_vector_452 {l : Launch} {G : XG} {d : Nat} {y1 : Int32} {y2 : Int32} {y3 : Int32} {h : XH} {r : Int32 × XH} (L0 : LY h) (hf : b_m_vector_452 y1 y2 y3 h = some r) : XR l G xEX12_vector (d + 3) (452, [none, none, none, none, none, none, none, none, none, none, none, none], [(.int y3), (.int y2), (.int y1), (.ref 1262)], h) (fun C => ∃ v, xRet xEX12_vector C v ∧ (C.2.2.2 = r.2 ∧ v = some (.int r.1)) ∧ LY r.2) := by
  unfold b_m_vector_452 at hf
  replace hf := xb_some hf
  obtain ⟨r1, e2, hf⟩ := hf
  refine r_callv rfl xvX12_thing xm12_410 (kf_m_thing (d := d) L0 e2) (LY.lt L0 (by decide)) (LY.k1262 L0) (by decide) rfl rfl (dl0 (by decide)) (by decide) (Nat.le_of_ble_eq_true rfl) ?_
  rintro _ _ ⟨⟨rfl, rfl⟩, L3⟩
  cases hf
  exact XR.reti rfl rfl (fun hret => ⟨_, hret, ⟨rfl, rfl⟩, L3⟩)
def b_m_vector_425 (K370 : Int32 → Int32 → Int32 → Int32 → Int32 → Int32 → XH → Option (Int32 × XH)) (x1 : Int32) (x2 : Int32) (x5 : Int32) (x7 : Int32) (x8 : Int32) (x11 : Int32) (h : XH) : Option (Int32 × XH) := (K370 x1 x2 x5 x7 x8 (x11 + (-1)) h)
set_option maxRecDepth 20000 in
theorem kb_m_vector_425 {l : Launch} {G : XG} {d : Nat} {K370 : Int32 → Int32 → Int32 → Int32 → Int32 → Int32 → XH → Option (Int32 × XH)} {x1 : Int32} {x2 : Int32} {x5 : Int32} {x7 : Int32} {x8 : Int32} {x11 : Int32} {h : XH} {r : Int32 × XH} (hK370 : ∀ (x1 : Int32) (x2 : Int32) (x5 : Int32) (x7 : Int32) (x8 : Int32) (x11 : Int32) (h : XH), LY h → K370 x1 x2 x5 x7 x8 x11 h = some r → XR l G xEX12_vector (d + 3) (370, [some (.ref 1262), some (.int x1), some (.int x2), none, none, some (.int x5), none, some (.int x7), some (.int x8), none, none, some (.int x11)], [], h) (fun C => ∃ v, xRet xEX12_vector C v ∧ (C.2.2.2 = r.2 ∧ v = some (.int r.1)) ∧ LY r.2)) (L0 : LY h) (hf : b_m_vector_425 K370 x1 x2 x5 x7 x8 x11 h = some r) : XR l G xEX12_vector (d + 3) (425, [some (.ref 1262), some (.int x1), some (.int x2), none, none, some (.int x5), none, some (.int x7), some (.int x8), none, none, some (.int x11)], [], h) (fun C => ∃ v, xRet xEX12_vector C v ∧ (C.2.2.2 = r.2 ∧ v = some (.int r.1)) ∧ LY r.2) := by
  unfold b_m_vector_425 at hf
  refine XS.go (XS.lcl (L3 := [some (.ref 1262), some (.int x1), some (.int x2), none, none, some (.int x5), none, some (.int x7), some (.int x8), none, none, some (.int (x11 + (-1)))]) (s_dec rfl rfl (Nat.le_of_ble_eq_true rfl)) rfl) ?_
  refine XS.go (s_goto (tgt := 370) rfl rfl) ?_
  exact XR.forget (L2 := [some (.ref 1262), some (.int x1), some (.int x2), none, none, some (.int x5), none, some (.int x7), some (.int x8), none, none, some (.int (x11 + (-1)))]) ⟨rfl, ⟨rfl, ⟨rfl, ⟨rfl, ⟨rfl, ⟨rfl, ⟨rfl, trivial⟩⟩⟩⟩⟩⟩⟩ (hK370 x1 x2 x5 x7 x8 (x11 + (-1)) _ L0 hf)
def s_m_vector_370 (K370 : Int32 → Int32 → Int32 → Int32 → Int32 → Int32 → XH → Option (Int32 × XH)) (x1 : Int32) (x2 : Int32) (x5 : Int32) (x7 : Int32) (x8 : Int32) (x11 : Int32) (h : XH) : Option (Int32 × XH) := (if x11 < 0 then (Option.bind (f_m_ahead (Int32.toInt64 x7) 4 h) fun r5 => (if ¬ x1 = 1 then (b_m_vector_452 5 x1 x2 r5.2) else (b_m_vector_452 5 x1 0 r5.2))) else (if ¬ x1 = 0 then (if ¬ x1 = 2 then (if 0 ≤ x11 ∧ x11 < nI 600 then (Option.bind (f_m_reference (Int64.toInt32 (hj h 1298 (Int32.toNatClampNeg x11))) h) fun r12 => (b_m_vector_425 K370 x1 x2 x5 x7 x8 x11 r12.2)) else none) else (Option.bind (f_m_putStruct x2 (x11 * x5) h) fun r15 => (b_m_vector_425 K370 x1 x2 x5 x7 x8 x11 r15.2))) else (if 0 ≤ x11 ∧ x11 < nI 600 then (Option.bind (f_m_ahead (hj h 1298 (Int32.toNatClampNeg x11)) x8 h) fun r19 => (b_m_vector_425 K370 x1 x2 x5 x7 x8 x11 r19.2)) else none)))
set_option maxRecDepth 20000 in
theorem ks_m_vector_370 {l : Launch} {G : XG} {d : Nat} {K370 : Int32 → Int32 → Int32 → Int32 → Int32 → Int32 → XH → Option (Int32 × XH)} {x1 : Int32} {x2 : Int32} {x5 : Int32} {x7 : Int32} {x8 : Int32} {x11 : Int32} {h : XH} {r : Int32 × XH} (hK370 : ∀ (x1 : Int32) (x2 : Int32) (x5 : Int32) (x7 : Int32) (x8 : Int32) (x11 : Int32) (h : XH), LY h → K370 x1 x2 x5 x7 x8 x11 h = some r → XR l G xEX12_vector (d + 3) (370, [some (.ref 1262), some (.int x1), some (.int x2), none, none, some (.int x5), none, some (.int x7), some (.int x8), none, none, some (.int x11)], [], h) (fun C => ∃ v, xRet xEX12_vector C v ∧ (C.2.2.2 = r.2 ∧ v = some (.int r.1)) ∧ LY r.2)) (L0 : LY h) (hf : s_m_vector_370 K370 x1 x2 x5 x7 x8 x11 h = some r) : XR l G xEX12_vector (d + 3) (370, [some (.ref 1262), some (.int x1), some (.int x2), none, none, some (.int x5), none, some (.int x7), some (.int x8), none, none, some (.int x11)], [], h) (fun C => ∃ v, xRet xEX12_vector C v ∧ (C.2.2.2 = r.2 ∧ v = some (.int r.1)) ∧ LY r.2) := by
  unfold s_m_vector_370 at hf
  refine XS.go (s_iload rfl rfl) ?_
  refine r_if_lt (tgt := 431) rfl rfl (fun qc4 => ?_) (fun qc4 => ?_)
  · replace hf := xi_pos hf qc4
    refine XS.go (s_aloadn rfl rfl rfl) ?_
    refine XS.go (s_iload rfl rfl) ?_
    refine XS.go (s_i2l rfl) ?_
    refine XS.go (s_iconst (v := 4) rfl rfl) ?_
    replace hf := xb_some hf
    obtain ⟨r5, e6, hf⟩ := hf
    refine r_callv rfl xvX12_ahead xm12_396 (kf_m_ahead (d := d) L0 e6) (LY.lt L0 (by decide)) (LY.k1262 L0) (by decide) rfl rfl (dl0 (by decide)) (by decide) (Nat.le_of_ble_eq_true rfl) ?_
    rintro _ _ ⟨⟨rfl, rfl⟩, L7⟩
    refine XS.go (s_aloadn rfl rfl rfl) ?_
    refine XS.go (s_iconst (v := 5) rfl rfl) ?_
    refine XS.go (s_iloadn rfl rfl rfl) ?_
    refine XS.go (s_iloadn rfl rfl rfl) ?_
    refine XS.go (s_iconst (v := 1) rfl rfl) ?_
    refine r_icmp_ne (tgt := 451) rfl rfl (fun qc8 => ?_) (fun qc8 => ?_)
    · replace hf := xi_pos hf qc8
      refine XS.go (s_iloadn rfl rfl rfl) ?_
      exact XR.forget (L2 := [none, none, none, none, none, none, none, none, none, none, none, none]) trivial (kb_m_vector_452 L7 hf)
    · replace hf := xi_neg hf qc8
      refine XS.go (s_iconst (v := 0) rfl rfl) ?_
      refine XS.go (s_goto (tgt := 452) rfl rfl) ?_
      exact XR.forget (L2 := [none, none, none, none, none, none, none, none, none, none, none, none]) trivial (kb_m_vector_452 L7 hf)
  · replace hf := xi_neg hf qc4
    refine XS.go (s_iloadn rfl rfl rfl) ?_
    refine r_if_ne (tgt := 395) rfl rfl (fun qc9 => ?_) (fun qc9 => ?_)
    · replace hf := xi_pos hf qc9
      refine XS.go (s_iloadn rfl rfl rfl) ?_
      refine XS.go (s_iconst (v := 2) rfl rfl) ?_
      refine r_icmp_ne (tgt := 413) rfl rfl (fun qc10 => ?_) (fun qc10 => ?_)
      · replace hf := xi_pos hf qc10
        refine XS.go (s_aloadn rfl rfl rfl) ?_
        refine XS.go (s_aloadn rfl rfl rfl) ?_
        refine XS.go (s_getr rfl xf12_116 (LY.lt L0 (by decide)) (LY.k1262 L0) (by decide) rfl (LY.r1262_54 L0)) ?_
        refine XS.go (s_iload rfl rfl) ?_
        replace hf := xi_none hf
        obtain ⟨qk11, hf⟩ := hf
        refine XS.go (s_lalde rfl (LY.lt L0 (by decide)) (LY.k1298 L0) (inLit (LY.n1298 L0) qk11.1 qk11.2 (by decide)) rfl) ?_
        refine XS.go (s_l2i rfl) ?_
        replace hf := xb_some hf
        obtain ⟨r12, e13, hf⟩ := hf
        refine r_callv rfl xvX12_reference xm12_423 (kf_m_reference (d := d) L0 e13) (LY.lt L0 (by decide)) (LY.k1262 L0) (by decide) rfl rfl (dl (by decide)) (by decide) (Nat.le_of_ble_eq_true rfl) ?_
        rintro _ _ ⟨⟨rfl, rfl⟩, L14⟩
        exact XR.forget (L2 := [some (.ref 1262), some (.int x1), some (.int x2), none, none, some (.int x5), none, some (.int x7), some (.int x8), none, none, some (.int x11)]) ⟨rfl, ⟨rfl, ⟨rfl, ⟨rfl, ⟨rfl, ⟨rfl, ⟨rfl, trivial⟩⟩⟩⟩⟩⟩⟩ (kb_m_vector_425 hK370 L14 hf)
      · replace hf := xi_neg hf qc10
        refine XS.go (s_aloadn rfl rfl rfl) ?_
        refine XS.go (s_iloadn rfl rfl rfl) ?_
        refine XS.go (s_iload rfl rfl) ?_
        refine XS.go (s_iload rfl rfl) ?_
        refine XS.go (s_imul rfl) ?_
        replace hf := xb_some hf
        obtain ⟨r15, e16, hf⟩ := hf
        refine r_callv rfl xvX12_putStruct xm12_420 (kf_m_putStruct (d := d) L0 e16) (LY.lt L0 (by decide)) (LY.k1262 L0) (by decide) rfl rfl (dl (by decide)) (by decide) (Nat.le_of_ble_eq_true rfl) ?_
        rintro _ _ ⟨⟨rfl, rfl⟩, L17⟩
        refine XS.go (s_goto (tgt := 425) rfl rfl) ?_
        exact XR.forget (L2 := [some (.ref 1262), some (.int x1), some (.int x2), none, none, some (.int x5), none, some (.int x7), some (.int x8), none, none, some (.int x11)]) ⟨rfl, ⟨rfl, ⟨rfl, ⟨rfl, ⟨rfl, ⟨rfl, ⟨rfl, trivial⟩⟩⟩⟩⟩⟩⟩ (kb_m_vector_425 hK370 L17 hf)
    · replace hf := xi_neg hf qc9
      refine XS.go (s_aloadn rfl rfl rfl) ?_
      refine XS.go (s_aloadn rfl rfl rfl) ?_
      refine XS.go (s_getr rfl xf12_116 (LY.lt L0 (by decide)) (LY.k1262 L0) (by decide) rfl (LY.r1262_54 L0)) ?_
      refine XS.go (s_iload rfl rfl) ?_
      replace hf := xi_none hf
      obtain ⟨qk18, hf⟩ := hf
      refine XS.go (s_lalde rfl (LY.lt L0 (by decide)) (LY.k1298 L0) (inLit (LY.n1298 L0) qk18.1 qk18.2 (by decide)) rfl) ?_
      refine XS.go (s_iload rfl rfl) ?_
      replace hf := xb_some hf
      obtain ⟨r19, e20, hf⟩ := hf
      refine r_callv rfl xvX12_ahead xm12_396 (kf_m_ahead (d := d) L0 e20) (LY.lt L0 (by decide)) (LY.k1262 L0) (by decide) rfl rfl (dl0 (by decide)) (by decide) (Nat.le_of_ble_eq_true rfl) ?_
      rintro _ _ ⟨⟨rfl, rfl⟩, L21⟩
      refine XS.go (s_goto (tgt := 425) rfl rfl) ?_
      exact XR.forget (L2 := [some (.ref 1262), some (.int x1), some (.int x2), none, none, some (.int x5), none, some (.int x7), some (.int x8), none, none, some (.int x11)]) ⟨rfl, ⟨rfl, ⟨rfl, ⟨rfl, ⟨rfl, ⟨rfl, ⟨rfl, trivial⟩⟩⟩⟩⟩⟩⟩ (kb_m_vector_425 hK370 L21 hf)
def b_m_vector_370 : Nat → Int32 → Int32 → Int32 → Int32 → Int32 → Int32 → XH → Option (Int32 × XH)
  | 0, _, _, _, _, _, _, _ => none
  | n + 1, x1, x2, x5, x7, x8, x11, h => s_m_vector_370 (b_m_vector_370 n) x1 x2 x5 x7 x8 x11 h
theorem kb_m_vector_370 {l : Launch} {G : XG} {d : Nat} {n : Nat} {x1 : Int32} {x2 : Int32} {x5 : Int32} {x7 : Int32} {x8 : Int32} {x11 : Int32} {h : XH} {r : Int32 × XH} (L0 : LY h) (hf : b_m_vector_370 n x1 x2 x5 x7 x8 x11 h = some r) : XR l G xEX12_vector (d + 3) (370, [some (.ref 1262), some (.int x1), some (.int x2), none, none, some (.int x5), none, some (.int x7), some (.int x8), none, none, some (.int x11)], [], h) (fun C => ∃ v, xRet xEX12_vector C v ∧ (C.2.2.2 = r.2 ∧ v = some (.int r.1)) ∧ LY r.2) := by
  induction n generalizing x1 x2 x5 x7 x8 x11 h with
  | zero => cases hf
  | succ n ih => exact ks_m_vector_370 (fun x1 x2 x5 x7 x8 x11 h L0 hf => ih (h := h) (x1 := x1) (x2 := x2) (x5 := x5) (x7 := x7) (x8 := x8) (x11 := x11) L0 hf) L0 hf
def b_m_vector_345 (h : XH) : Option (Int32 × XH) := (some (0, (hsi h 1262 0 3)))
set_option maxRecDepth 20000 in
theorem kb_m_vector_345 {l : Launch} {G : XG} {d : Nat} {h : XH} {r : Int32 × XH} (L0 : LY h) (hf : b_m_vector_345 h = some r) : XR l G xEX12_vector (d + 3) (345, [some (.ref 1262), none, none, none, none, none, none, none, none, none, none, none], [], h) (fun C => ∃ v, xRet xEX12_vector C v ∧ (C.2.2.2 = r.2 ∧ v = some (.int r.1)) ∧ LY r.2) := by
  unfold b_m_vector_345 at hf
  refine XS.go (s_aloadn rfl rfl rfl) ?_
  refine XS.go (s_iconst (v := 3) rfl rfl) ?_
  refine XS.go (s_puti rfl xf12_175 (LY.lt L0 (by decide)) (LY.k1262 L0) (by decide) rfl (Or.inl rfl)) ?_
  refine XS.go (s_iconst (v := 0) rfl rfl) ?_
  cases hf
  exact XR.reti rfl rfl (fun hret => ⟨_, hret, ⟨rfl, rfl⟩, (by simp only [LY_si, LY_sj]; exact L0)⟩)
def b_m_vector_309 (x1 : Int32) (x2 : Int32) (x5 : Int32) (x7 : Int32) (x8 : Int32) (x9 : Int32) (y1 : Int32) (y2 : Int32) (y3 : Int32) (h : XH) : Option (Int32 × XH) := (Option.bind (f_m_fill y1 y2 y3 h) fun r22 => (if (hi r22.2 1262 59) = 300 then (b_m_vector_345 r22.2) else (if ((((hi r22.2 1262 57) + r22.1) + (x7 * x8)) + 4) ≤ 4000 then (Option.bind (f_m_aligned x9 r22.2) fun r27 => (Option.bind (f_m_zeros r22.1 r27.2) fun r30 => (b_m_vector_370 100000 x1 x2 x5 x7 x8 (x7 - 1) r30.2))) else (b_m_vector_345 r22.2))))
set_option maxRecDepth 20000 in
theorem kb_m_vector_309 {l : Launch} {G : XG} {d : Nat} {x1 : Int32} {x2 : Int32} {x5 : Int32} {x7 : Int32} {x8 : Int32} {x9 : Int32} {y1 : Int32} {y2 : Int32} {y3 : Int32} {h : XH} {r : Int32 × XH} (L0 : LY h) (hf : b_m_vector_309 x1 x2 x5 x7 x8 x9 y1 y2 y3 h = some r) : XR l G xEX12_vector (d + 3) (309, [some (.ref 1262), some (.int x1), some (.int x2), none, none, some (.int x5), none, some (.int x7), some (.int x8), some (.int x9), none, none], [(.int y3), (.int y2), (.int y1), (.ref 1262)], h) (fun C => ∃ v, xRet xEX12_vector C v ∧ (C.2.2.2 = r.2 ∧ v = some (.int r.1)) ∧ LY r.2) := by
  unfold b_m_vector_309 at hf
  replace hf := xb_some hf
  obtain ⟨r22, e23, hf⟩ := hf
  refine r_callv rfl xvX12_fill xm12_400 (kf_m_fill (d := d) L0 e23) (LY.lt L0 (by decide)) (LY.k1262 L0) (by decide) rfl rfl (dl0 (by decide)) (by decide) (Nat.le_of_ble_eq_true rfl) ?_
  rintro _ _ ⟨⟨rfl, rfl⟩, L24⟩
  refine XS.go (XS.lcl (L3 := [some (.ref 1262), some (.int x1), some (.int x2), none, none, some (.int x5), none, some (.int x7), some (.int x8), some (.int x9), some (.int r22.1), none]) (s_istore rfl (Nat.le_of_ble_eq_true rfl)) rfl) ?_
  refine XS.go (s_aloadn rfl rfl rfl) ?_
  refine XS.go (s_getie rfl xf12_388 (LY.lt L24 (by decide)) (LY.k1262 L24) (by decide) rfl rfl) ?_
  refine XS.go (s_sipush (v := 300) rfl rfl) ?_
  refine r_icmp_eq (tgt := 345) rfl rfl (fun qc25 => ?_) (fun qc25 => ?_)
  · replace hf := xi_pos hf qc25
    exact XR.forget (L2 := [some (.ref 1262), none, none, none, none, none, none, none, none, none, none, none]) ⟨rfl, trivial⟩ (kb_m_vector_345 L24 hf)
  · replace hf := xi_neg hf qc25
    refine XS.go (s_aloadn rfl rfl rfl) ?_
    refine XS.go (s_getie rfl xf12_382 (LY.lt L24 (by decide)) (LY.k1262 L24) (by decide) rfl rfl) ?_
    refine XS.go (s_iload rfl rfl) ?_
    refine XS.go (s_iadd rfl) ?_
    refine XS.go (s_iload rfl rfl) ?_
    refine XS.go (s_iload rfl rfl) ?_
    refine XS.go (s_imul rfl) ?_
    refine XS.go (s_iadd rfl) ?_
    refine XS.go (s_iconst (v := 4) rfl rfl) ?_
    refine XS.go (s_iadd rfl) ?_
    refine XS.go (s_sipush (v := 4000) rfl rfl) ?_
    refine r_icmp_le (tgt := 352) rfl rfl (fun qc26 => ?_) (fun qc26 => ?_)
    · replace hf := xi_pos hf qc26
      refine XS.go (s_aloadn rfl rfl rfl) ?_
      refine XS.go (s_iload rfl rfl) ?_
      replace hf := xb_some hf
      obtain ⟨r27, e28, hf⟩ := hf
      refine r_callv rfl xvX12_aligned xm12_404 (kf_m_aligned (d := d) L24 e28) (LY.lt L24 (by decide)) (LY.k1262 L24) (by decide) rfl rfl (dl0 (by decide)) (by decide) (Nat.le_of_ble_eq_true rfl) ?_
      rintro _ _ ⟨⟨rfl, rfl⟩, L29⟩
      refine XS.go (s_aloadn rfl rfl rfl) ?_
      refine XS.go (s_iload rfl rfl) ?_
      replace hf := xb_some hf
      obtain ⟨r30, e31, hf⟩ := hf
      refine r_callv rfl xvX12_zeros xm12_407 (kf_m_zeros (d := d) L29 e31) (LY.lt L29 (by decide)) (LY.k1262 L29) (by decide) rfl rfl (dl0 (by decide)) (by decide) (Nat.le_of_ble_eq_true rfl) ?_
      rintro _ _ ⟨⟨rfl, rfl⟩, L32⟩
      refine XS.go (s_iload rfl rfl) ?_
      refine XS.go (s_iconst (v := 1) rfl rfl) ?_
      refine XS.go (s_isub rfl) ?_
      refine XS.go (XS.lcl (L3 := [some (.ref 1262), some (.int x1), some (.int x2), none, none, some (.int x5), none, some (.int x7), some (.int x8), some (.int x9), some (.int r22.1), some (.int (x7 - 1))]) (s_istore rfl (Nat.le_of_ble_eq_true rfl)) rfl) ?_
      exact XR.forget (L2 := [some (.ref 1262), some (.int x1), some (.int x2), none, none, some (.int x5), none, some (.int x7), some (.int x8), none, none, some (.int (x7 - 1))]) ⟨rfl, ⟨rfl, ⟨rfl, ⟨rfl, ⟨rfl, ⟨rfl, ⟨rfl, trivial⟩⟩⟩⟩⟩⟩⟩ (kb_m_vector_370 L32 hf)
    · replace hf := xi_neg hf qc26
      exact XR.forget (L2 := [some (.ref 1262), none, none, none, none, none, none, none, none, none, none, none]) ⟨rfl, trivial⟩ (kb_m_vector_345 L24 hf)
def b_m_vector_285 (x1 : Int32) (x2 : Int32) (x5 : Int32) (x7 : Int32) (x8 : Int32) (y0 : Int32) (h : XH) : Option (Int32 × XH) := (if y0 ≤ 4 then (b_m_vector_309 x1 x2 x5 x7 x8 y0 (hi h 1262 57) (x7 * x8) 4 h) else (b_m_vector_309 x1 x2 x5 x7 x8 y0 (hi h 1262 57) (x7 * x8) y0 h))
set_option maxRecDepth 20000 in
theorem kb_m_vector_285 {l : Launch} {G : XG} {d : Nat} {x1 : Int32} {x2 : Int32} {x5 : Int32} {x7 : Int32} {x8 : Int32} {y0 : Int32} {h : XH} {r : Int32 × XH} (L0 : LY h) (hf : b_m_vector_285 x1 x2 x5 x7 x8 y0 h = some r) : XR l G xEX12_vector (d + 3) (285, [some (.ref 1262), some (.int x1), some (.int x2), none, none, some (.int x5), none, some (.int x7), some (.int x8), none, none, none], [(.int y0)], h) (fun C => ∃ v, xRet xEX12_vector C v ∧ (C.2.2.2 = r.2 ∧ v = some (.int r.1)) ∧ LY r.2) := by
  unfold b_m_vector_285 at hf
  refine XS.go (XS.lcl (L3 := [some (.ref 1262), some (.int x1), some (.int x2), none, none, some (.int x5), none, some (.int x7), some (.int x8), some (.int y0), none, none]) (s_istore rfl (Nat.le_of_ble_eq_true rfl)) rfl) ?_
  refine XS.go (s_aloadn rfl rfl rfl) ?_
  refine XS.go (s_aloadn rfl rfl rfl) ?_
  refine XS.go (s_getie rfl xf12_382 (LY.lt L0 (by decide)) (LY.k1262 L0) (by decide) rfl rfl) ?_
  refine XS.go (s_iload rfl rfl) ?_
  refine XS.go (s_iload rfl rfl) ?_
  refine XS.go (s_imul rfl) ?_
  refine XS.go (s_iload rfl rfl) ?_
  refine XS.go (s_iconst (v := 4) rfl rfl) ?_
  refine r_icmp_le (tgt := 308) rfl rfl (fun qc33 => ?_) (fun qc33 => ?_)
  · replace hf := xi_pos hf qc33
    refine XS.go (s_iconst (v := 4) rfl rfl) ?_
    exact XR.forget (L2 := [some (.ref 1262), some (.int x1), some (.int x2), none, none, some (.int x5), none, some (.int x7), some (.int x8), some (.int y0), none, none]) ⟨rfl, ⟨rfl, ⟨rfl, ⟨rfl, ⟨rfl, ⟨rfl, ⟨rfl, trivial⟩⟩⟩⟩⟩⟩⟩ (kb_m_vector_309 L0 hf)
  · replace hf := xi_neg hf qc33
    refine XS.go (s_iload rfl rfl) ?_
    refine XS.go (s_goto (tgt := 309) rfl rfl) ?_
    exact XR.forget (L2 := [some (.ref 1262), some (.int x1), some (.int x2), none, none, some (.int x5), none, some (.int x7), some (.int x8), some (.int y0), none, none]) ⟨rfl, ⟨rfl, ⟨rfl, ⟨rfl, ⟨rfl, ⟨rfl, ⟨rfl, trivial⟩⟩⟩⟩⟩⟩⟩ (kb_m_vector_309 L0 hf)
def b_m_vector_259 (x1 : Int32) (x2 : Int32) (x5 : Int32) (x7 : Int32) (y0 : Int32) (h : XH) : Option (Int32 × XH) := (if ¬ x1 = 0 then (if ¬ x1 = 2 then (b_m_vector_285 x1 x2 x5 x7 y0 4 h) else (if 0 ≤ x2 ∧ x2 < nI 12 then (b_m_vector_285 x1 x2 x5 x7 y0 (hi h 1275 (Int32.toNatClampNeg x2)) h) else none)) else (b_m_vector_285 x1 x2 x5 x7 y0 y0 h))
set_option maxRecDepth 20000 in
theorem kb_m_vector_259 {l : Launch} {G : XG} {d : Nat} {x1 : Int32} {x2 : Int32} {x5 : Int32} {x7 : Int32} {y0 : Int32} {h : XH} {r : Int32 × XH} (L0 : LY h) (hf : b_m_vector_259 x1 x2 x5 x7 y0 h = some r) : XR l G xEX12_vector (d + 3) (259, [some (.ref 1262), some (.int x1), some (.int x2), none, none, some (.int x5), none, some (.int x7), none, none, none, none], [(.int y0)], h) (fun C => ∃ v, xRet xEX12_vector C v ∧ (C.2.2.2 = r.2 ∧ v = some (.int r.1)) ∧ LY r.2) := by
  unfold b_m_vector_259 at hf
  refine XS.go (XS.lcl (L3 := [some (.ref 1262), some (.int x1), some (.int x2), none, none, some (.int x5), none, some (.int x7), some (.int y0), none, none, none]) (s_istore rfl (Nat.le_of_ble_eq_true rfl)) rfl) ?_
  refine XS.go (s_iloadn rfl rfl rfl) ?_
  refine r_if_ne (tgt := 270) rfl rfl (fun qc34 => ?_) (fun qc34 => ?_)
  · replace hf := xi_pos hf qc34
    refine XS.go (s_iloadn rfl rfl rfl) ?_
    refine XS.go (s_iconst (v := 2) rfl rfl) ?_
    refine r_icmp_ne (tgt := 284) rfl rfl (fun qc35 => ?_) (fun qc35 => ?_)
    · replace hf := xi_pos hf qc35
      refine XS.go (s_iconst (v := 4) rfl rfl) ?_
      exact XR.forget (L2 := [some (.ref 1262), some (.int x1), some (.int x2), none, none, some (.int x5), none, some (.int x7), some (.int y0), none, none, none]) ⟨rfl, ⟨rfl, ⟨rfl, ⟨rfl, ⟨rfl, ⟨rfl, trivial⟩⟩⟩⟩⟩⟩ (kb_m_vector_285 L0 hf)
    · replace hf := xi_neg hf qc35
      refine XS.go (s_aloadn rfl rfl rfl) ?_
      refine XS.go (s_getr rfl xf12_46 (LY.lt L0 (by decide)) (LY.k1262 L0) (by decide) rfl (LY.r1262_23 L0)) ?_
      refine XS.go (s_iloadn rfl rfl rfl) ?_
      replace hf := xi_none hf
      obtain ⟨qk36, hf⟩ := hf
      refine XS.go (s_ialde rfl (LY.lt L0 (by decide)) (LY.k1275 L0) (inLit (LY.n1275 L0) qk36.1 qk36.2 (by decide)) rfl) ?_
      refine XS.go (s_goto (tgt := 285) rfl rfl) ?_
      exact XR.forget (L2 := [some (.ref 1262), some (.int x1), some (.int x2), none, none, some (.int x5), none, some (.int x7), some (.int y0), none, none, none]) ⟨rfl, ⟨rfl, ⟨rfl, ⟨rfl, ⟨rfl, ⟨rfl, trivial⟩⟩⟩⟩⟩⟩ (kb_m_vector_285 L0 hf)
  · replace hf := xi_neg hf qc34
    refine XS.go (s_iload rfl rfl) ?_
    refine XS.go (s_goto (tgt := 285) rfl rfl) ?_
    exact XR.forget (L2 := [some (.ref 1262), some (.int x1), some (.int x2), none, none, some (.int x5), none, some (.int x7), some (.int y0), none, none, none]) ⟨rfl, ⟨rfl, ⟨rfl, ⟨rfl, ⟨rfl, ⟨rfl, trivial⟩⟩⟩⟩⟩⟩ (kb_m_vector_285 L0 hf)
def b_m_vector_215 (x1 : Int32) (x2 : Int32) (x3 : Int32) (x5 : Int32) (x6 : Int32) (h : XH) : Option (Int32 × XH) := (if ¬ x6 = 0 then (if ¬ x5 = 0 then (if ¬ x1 = 0 then (if ¬ x1 = 2 then (b_m_vector_259 x1 x2 x5 (x3 / x5) 4 h) else (if 0 ≤ x2 ∧ x2 < nI 12 then (b_m_vector_259 x1 x2 x5 (x3 / x5) (hi h 1274 (Int32.toNatClampNeg x2)) h) else none)) else (Option.bind (f_m_bytesOf x2 h) fun r42 => (b_m_vector_259 x1 x2 x5 (x3 / x5) r42.1 r42.2))) else none) else (some (0, (hsi h 1262 0 2))))
set_option maxRecDepth 20000 in
theorem kb_m_vector_215 {l : Launch} {G : XG} {d : Nat} {x1 : Int32} {x2 : Int32} {x3 : Int32} {x5 : Int32} {x6 : Int32} {h : XH} {r : Int32 × XH} (L0 : LY h) (hf : b_m_vector_215 x1 x2 x3 x5 x6 h = some r) : XR l G xEX12_vector (d + 3) (215, [some (.ref 1262), some (.int x1), some (.int x2), some (.int x3), none, some (.int x5), some (.int x6), none, none, none, none, none], [], h) (fun C => ∃ v, xRet xEX12_vector C v ∧ (C.2.2.2 = r.2 ∧ v = some (.int r.1)) ∧ LY r.2) := by
  unfold b_m_vector_215 at hf
  refine XS.go (s_iload rfl rfl) ?_
  refine r_if_ne (tgt := 227) rfl rfl (fun qc37 => ?_) (fun qc37 => ?_)
  · replace hf := xi_pos hf qc37
    refine XS.go (s_iloadn rfl rfl rfl) ?_
    refine XS.go (s_iload rfl rfl) ?_
    replace hf := xi_none hf
    obtain ⟨qk38, hf⟩ := hf
    refine XS.go (s_idiv qk38 rfl) ?_
    refine XS.go (XS.lcl (L3 := [some (.ref 1262), some (.int x1), some (.int x2), some (.int x3), none, some (.int x5), some (.int x6), some (.int (x3 / x5)), none, none, none, none]) (s_istore rfl (Nat.le_of_ble_eq_true rfl)) rfl) ?_
    refine XS.go (s_iloadn rfl rfl rfl) ?_
    refine r_if_ne (tgt := 244) rfl rfl (fun qc39 => ?_) (fun qc39 => ?_)
    · replace hf := xi_pos hf qc39
      refine XS.go (s_iloadn rfl rfl rfl) ?_
      refine XS.go (s_iconst (v := 2) rfl rfl) ?_
      refine r_icmp_ne (tgt := 258) rfl rfl (fun qc40 => ?_) (fun qc40 => ?_)
      · replace hf := xi_pos hf qc40
        refine XS.go (s_iconst (v := 4) rfl rfl) ?_
        exact XR.forget (L2 := [some (.ref 1262), some (.int x1), some (.int x2), none, none, some (.int x5), none, some (.int (x3 / x5)), none, none, none, none]) ⟨rfl, ⟨rfl, ⟨rfl, ⟨rfl, ⟨rfl, trivial⟩⟩⟩⟩⟩ (kb_m_vector_259 L0 hf)
      · replace hf := xi_neg hf qc40
        refine XS.go (s_aloadn rfl rfl rfl) ?_
        refine XS.go (s_getr rfl xf12_43 (LY.lt L0 (by decide)) (LY.k1262 L0) (by decide) rfl (LY.r1262_22 L0)) ?_
        refine XS.go (s_iloadn rfl rfl rfl) ?_
        replace hf := xi_none hf
        obtain ⟨qk41, hf⟩ := hf
        refine XS.go (s_ialde rfl (LY.lt L0 (by decide)) (LY.k1274 L0) (inLit (LY.n1274 L0) qk41.1 qk41.2 (by decide)) rfl) ?_
        refine XS.go (s_goto (tgt := 259) rfl rfl) ?_
        exact XR.forget (L2 := [some (.ref 1262), some (.int x1), some (.int x2), none, none, some (.int x5), none, some (.int (x3 / x5)), none, none, none, none]) ⟨rfl, ⟨rfl, ⟨rfl, ⟨rfl, ⟨rfl, trivial⟩⟩⟩⟩⟩ (kb_m_vector_259 L0 hf)
    · replace hf := xi_neg hf qc39
      refine XS.go (s_iloadn rfl rfl rfl) ?_
      replace hf := xb_some hf
      obtain ⟨r42, e43, hf⟩ := hf
      refine r_calls rfl xsX12_bytesOf xm12_315 (kf_m_bytesOf (d := d) L0 e43) rfl rfl (dl0 (by decide)) (by decide) (Nat.le_of_ble_eq_true rfl) ?_
      rintro _ _ ⟨⟨rfl, rfl⟩, L44⟩
      refine XS.go (s_goto (tgt := 259) rfl rfl) ?_
      exact XR.forget (L2 := [some (.ref 1262), some (.int x1), some (.int x2), none, none, some (.int x5), none, some (.int (x3 / x5)), none, none, none, none]) ⟨rfl, ⟨rfl, ⟨rfl, ⟨rfl, ⟨rfl, trivial⟩⟩⟩⟩⟩ (kb_m_vector_259 L44 hf)
  · replace hf := xi_neg hf qc37
    refine XS.go (s_aloadn rfl rfl rfl) ?_
    refine XS.go (s_iconst (v := 2) rfl rfl) ?_
    refine XS.go (s_puti rfl xf12_175 (LY.lt L0 (by decide)) (LY.k1262 L0) (by decide) rfl (Or.inl rfl)) ?_
    refine XS.go (s_iconst (v := 0) rfl rfl) ?_
    cases hf
    exact XR.reti rfl rfl (fun hret => ⟨_, hret, ⟨rfl, rfl⟩, (by simp only [LY_si, LY_sj]; exact L0)⟩)
def b_m_vector_203 (K136 : Int32 → Int32 → Int32 → Int32 → Int32 → Int32 → XH → Option (Int32 × XH)) (x1 : Int32) (x2 : Int32) (x3 : Int32) (x5 : Int32) (x7 : Int32) (y0 : Int32) (h : XH) : Option (Int32 × XH) := (K136 x1 x2 x3 x5 y0 (x7 + x5) h)
set_option maxRecDepth 20000 in
theorem kb_m_vector_203 {l : Launch} {G : XG} {d : Nat} {K136 : Int32 → Int32 → Int32 → Int32 → Int32 → Int32 → XH → Option (Int32 × XH)} {x1 : Int32} {x2 : Int32} {x3 : Int32} {x5 : Int32} {x7 : Int32} {y0 : Int32} {h : XH} {r : Int32 × XH} (hK136 : ∀ (x1 : Int32) (x2 : Int32) (x3 : Int32) (x5 : Int32) (x6 : Int32) (x7 : Int32) (h : XH), LY h → K136 x1 x2 x3 x5 x6 x7 h = some r → XR l G xEX12_vector (d + 3) (136, [some (.ref 1262), some (.int x1), some (.int x2), some (.int x3), none, some (.int x5), some (.int x6), some (.int x7), none, none, none, none], [], h) (fun C => ∃ v, xRet xEX12_vector C v ∧ (C.2.2.2 = r.2 ∧ v = some (.int r.1)) ∧ LY r.2)) (L0 : LY h) (hf : b_m_vector_203 K136 x1 x2 x3 x5 x7 y0 h = some r) : XR l G xEX12_vector (d + 3) (203, [some (.ref 1262), some (.int x1), some (.int x2), some (.int x3), none, some (.int x5), none, some (.int x7), none, none, none, none], [(.int y0)], h) (fun C => ∃ v, xRet xEX12_vector C v ∧ (C.2.2.2 = r.2 ∧ v = some (.int r.1)) ∧ LY r.2) := by
  unfold b_m_vector_203 at hf
  refine XS.go (XS.lcl (L3 := [some (.ref 1262), some (.int x1), some (.int x2), some (.int x3), none, some (.int x5), some (.int y0), some (.int x7), none, none, none, none]) (s_istore rfl (Nat.le_of_ble_eq_true rfl)) rfl) ?_
  refine XS.go (s_iload rfl rfl) ?_
  refine XS.go (s_iload rfl rfl) ?_
  refine XS.go (s_iadd rfl) ?_
  refine XS.go (XS.lcl (L3 := [some (.ref 1262), some (.int x1), some (.int x2), some (.int x3), none, some (.int x5), some (.int y0), some (.int (x7 + x5)), none, none, none, none]) (s_istore rfl (Nat.le_of_ble_eq_true rfl)) rfl) ?_
  refine XS.go (s_goto (tgt := 136) rfl rfl) ?_
  exact XR.forget (L2 := [some (.ref 1262), some (.int x1), some (.int x2), some (.int x3), none, some (.int x5), some (.int y0), some (.int (x7 + x5)), none, none, none, none]) ⟨rfl, ⟨rfl, ⟨rfl, ⟨rfl, ⟨rfl, ⟨rfl, ⟨rfl, trivial⟩⟩⟩⟩⟩⟩⟩ (hK136 x1 x2 x3 x5 y0 (x7 + x5) _ L0 hf)
def b_m_vector_200 (K136 : Int32 → Int32 → Int32 → Int32 → Int32 → Int32 → XH → Option (Int32 × XH)) (x1 : Int32) (x2 : Int32) (x3 : Int32) (x5 : Int32) (x7 : Int32) (y1 : Int64) (y2 : Int32) (y3 : Int32) (y4 : Int32) (h : XH) : Option (Int32 × XH) := (Option.bind (f_m_isThing y1 y2 y3 y4 h) fun r45 => (b_m_vector_203 K136 x1 x2 x3 x5 x7 r45.1 r45.2))
set_option maxRecDepth 20000 in
theorem kb_m_vector_200 {l : Launch} {G : XG} {d : Nat} {K136 : Int32 → Int32 → Int32 → Int32 → Int32 → Int32 → XH → Option (Int32 × XH)} {x1 : Int32} {x2 : Int32} {x3 : Int32} {x5 : Int32} {x7 : Int32} {y1 : Int64} {y2 : Int32} {y3 : Int32} {y4 : Int32} {h : XH} {r : Int32 × XH} (hK136 : ∀ (x1 : Int32) (x2 : Int32) (x3 : Int32) (x5 : Int32) (x6 : Int32) (x7 : Int32) (h : XH), LY h → K136 x1 x2 x3 x5 x6 x7 h = some r → XR l G xEX12_vector (d + 3) (136, [some (.ref 1262), some (.int x1), some (.int x2), some (.int x3), none, some (.int x5), some (.int x6), some (.int x7), none, none, none, none], [], h) (fun C => ∃ v, xRet xEX12_vector C v ∧ (C.2.2.2 = r.2 ∧ v = some (.int r.1)) ∧ LY r.2)) (L0 : LY h) (hf : b_m_vector_200 K136 x1 x2 x3 x5 x7 y1 y2 y3 y4 h = some r) : XR l G xEX12_vector (d + 3) (200, [some (.ref 1262), some (.int x1), some (.int x2), some (.int x3), none, some (.int x5), none, some (.int x7), none, none, none, none], [(.int y4), (.int y3), (.int y2), (.long y1), (.ref 1262)], h) (fun C => ∃ v, xRet xEX12_vector C v ∧ (C.2.2.2 = r.2 ∧ v = some (.int r.1)) ∧ LY r.2) := by
  unfold b_m_vector_200 at hf
  replace hf := xb_some hf
  obtain ⟨r45, e46, hf⟩ := hf
  refine r_callv rfl xvX12_isThing xm12_416 (kf_m_isThing (d := d) L0 e46) (LY.lt L0 (by decide)) (LY.k1262 L0) (by decide) rfl rfl (dl0 (by decide)) (by decide) (Nat.le_of_ble_eq_true rfl) ?_
  rintro _ _ ⟨⟨rfl, rfl⟩, L47⟩
  exact XR.forget (L2 := [some (.ref 1262), some (.int x1), some (.int x2), some (.int x3), none, some (.int x5), none, some (.int x7), none, none, none, none]) ⟨rfl, ⟨rfl, ⟨rfl, ⟨rfl, ⟨rfl, ⟨rfl, trivial⟩⟩⟩⟩⟩⟩ (kb_m_vector_203 hK136 L47 hf)
def s_m_vector_136 (K136 : Int32 → Int32 → Int32 → Int32 → Int32 → Int32 → XH → Option (Int32 × XH)) (x1 : Int32) (x2 : Int32) (x3 : Int32) (x5 : Int32) (x6 : Int32) (x7 : Int32) (h : XH) : Option (Int32 × XH) := (if x3 ≤ x7 then (b_m_vector_215 x1 x2 x3 x5 x6 h) else (if x6 = 0 then (b_m_vector_215 x1 x2 x3 x5 x6 h) else (if ¬ x1 = 0 then (if ¬ x1 = 2 then (if 0 ≤ x7 ∧ x7 < nI 600 then (if ¬ x1 = 3 then (b_m_vector_200 K136 x1 x2 x3 x5 x7 (hj h 1298 (Int32.toNatClampNeg x7)) x1 (-1) 0 h) else (b_m_vector_200 K136 x1 x2 x3 x5 x7 (hj h 1298 (Int32.toNatClampNeg x7)) x1 (-1) x2 h)) else none) else (Option.bind (f_m_areOfStruct x2 x7 h) fun r54 => (b_m_vector_203 K136 x1 x2 x3 x5 x7 r54.1 r54.2))) else (if 0 ≤ x7 ∧ x7 < nI 600 then (Option.bind (f_m_isValue x2 (hj h 1298 (Int32.toNatClampNeg x7)) h) fun r58 => (b_m_vector_203 K136 x1 x2 x3 x5 x7 r58.1 r58.2)) else none))))
set_option maxRecDepth 20000 in
theorem ks_m_vector_136 {l : Launch} {G : XG} {d : Nat} {K136 : Int32 → Int32 → Int32 → Int32 → Int32 → Int32 → XH → Option (Int32 × XH)} {x1 : Int32} {x2 : Int32} {x3 : Int32} {x5 : Int32} {x6 : Int32} {x7 : Int32} {h : XH} {r : Int32 × XH} (hK136 : ∀ (x1 : Int32) (x2 : Int32) (x3 : Int32) (x5 : Int32) (x6 : Int32) (x7 : Int32) (h : XH), LY h → K136 x1 x2 x3 x5 x6 x7 h = some r → XR l G xEX12_vector (d + 3) (136, [some (.ref 1262), some (.int x1), some (.int x2), some (.int x3), none, some (.int x5), some (.int x6), some (.int x7), none, none, none, none], [], h) (fun C => ∃ v, xRet xEX12_vector C v ∧ (C.2.2.2 = r.2 ∧ v = some (.int r.1)) ∧ LY r.2)) (L0 : LY h) (hf : s_m_vector_136 K136 x1 x2 x3 x5 x6 x7 h = some r) : XR l G xEX12_vector (d + 3) (136, [some (.ref 1262), some (.int x1), some (.int x2), some (.int x3), none, some (.int x5), some (.int x6), some (.int x7), none, none, none, none], [], h) (fun C => ∃ v, xRet xEX12_vector C v ∧ (C.2.2.2 = r.2 ∧ v = some (.int r.1)) ∧ LY r.2) := by
  unfold s_m_vector_136 at hf
  refine XS.go (s_iload rfl rfl) ?_
  refine XS.go (s_iloadn rfl rfl rfl) ?_
  refine r_icmp_ge (tgt := 215) rfl rfl (fun qc48 => ?_) (fun qc48 => ?_)
  · replace hf := xi_pos hf qc48
    exact XR.forget (L2 := [some (.ref 1262), some (.int x1), some (.int x2), some (.int x3), none, some (.int x5), some (.int x6), none, none, none, none, none]) ⟨rfl, ⟨rfl, ⟨rfl, ⟨rfl, ⟨rfl, ⟨rfl, trivial⟩⟩⟩⟩⟩⟩ (kb_m_vector_215 L0 hf)
  · replace hf := xi_neg hf qc48
    refine XS.go (s_iload rfl rfl) ?_
    refine r_if_eq (tgt := 215) rfl rfl (fun qc49 => ?_) (fun qc49 => ?_)
    · replace hf := xi_pos hf qc49
      exact XR.forget (L2 := [some (.ref 1262), some (.int x1), some (.int x2), some (.int x3), none, some (.int x5), some (.int x6), none, none, none, none, none]) ⟨rfl, ⟨rfl, ⟨rfl, ⟨rfl, ⟨rfl, ⟨rfl, trivial⟩⟩⟩⟩⟩⟩ (kb_m_vector_215 L0 hf)
    · replace hf := xi_neg hf qc49
      refine XS.go (s_iloadn rfl rfl rfl) ?_
      refine r_if_ne (tgt := 165) rfl rfl (fun qc50 => ?_) (fun qc50 => ?_)
      · replace hf := xi_pos hf qc50
        refine XS.go (s_iloadn rfl rfl rfl) ?_
        refine XS.go (s_iconst (v := 2) rfl rfl) ?_
        refine r_icmp_ne (tgt := 180) rfl rfl (fun qc51 => ?_) (fun qc51 => ?_)
        · replace hf := xi_pos hf qc51
          refine XS.go (s_aloadn rfl rfl rfl) ?_
          refine XS.go (s_aloadn rfl rfl rfl) ?_
          refine XS.go (s_getr rfl xf12_116 (LY.lt L0 (by decide)) (LY.k1262 L0) (by decide) rfl (LY.r1262_54 L0)) ?_
          refine XS.go (s_iload rfl rfl) ?_
          replace hf := xi_none hf
          obtain ⟨qk52, hf⟩ := hf
          refine XS.go (s_lalde rfl (LY.lt L0 (by decide)) (LY.k1298 L0) (inLit (LY.n1298 L0) qk52.1 qk52.2 (by decide)) rfl) ?_
          refine XS.go (s_iloadn rfl rfl rfl) ?_
          refine XS.go (s_iconst (v := (-1)) rfl rfl) ?_
          refine XS.go (s_iloadn rfl rfl rfl) ?_
          refine XS.go (s_iconst (v := 3) rfl rfl) ?_
          refine r_icmp_ne (tgt := 199) rfl rfl (fun qc53 => ?_) (fun qc53 => ?_)
          · replace hf := xi_pos hf qc53
            refine XS.go (s_iconst (v := 0) rfl rfl) ?_
            exact XR.forget (L2 := [some (.ref 1262), some (.int x1), some (.int x2), some (.int x3), none, some (.int x5), none, some (.int x7), none, none, none, none]) ⟨rfl, ⟨rfl, ⟨rfl, ⟨rfl, ⟨rfl, ⟨rfl, trivial⟩⟩⟩⟩⟩⟩ (kb_m_vector_200 hK136 L0 hf)
          · replace hf := xi_neg hf qc53
            refine XS.go (s_iloadn rfl rfl rfl) ?_
            refine XS.go (s_goto (tgt := 200) rfl rfl) ?_
            exact XR.forget (L2 := [some (.ref 1262), some (.int x1), some (.int x2), some (.int x3), none, some (.int x5), none, some (.int x7), none, none, none, none]) ⟨rfl, ⟨rfl, ⟨rfl, ⟨rfl, ⟨rfl, ⟨rfl, trivial⟩⟩⟩⟩⟩⟩ (kb_m_vector_200 hK136 L0 hf)
        · replace hf := xi_neg hf qc51
          refine XS.go (s_aloadn rfl rfl rfl) ?_
          refine XS.go (s_iloadn rfl rfl rfl) ?_
          refine XS.go (s_iload rfl rfl) ?_
          replace hf := xb_some hf
          obtain ⟨r54, e55, hf⟩ := hf
          refine r_callv rfl xvX12_areOfStruct xm12_413 (kf_m_areOfStruct (d := d) L0 e55) (LY.lt L0 (by decide)) (LY.k1262 L0) (by decide) rfl rfl (dl (by decide)) (by decide) (Nat.le_of_ble_eq_true rfl) ?_
          rintro _ _ ⟨⟨rfl, rfl⟩, L56⟩
          refine XS.go (s_goto (tgt := 203) rfl rfl) ?_
          exact XR.forget (L2 := [some (.ref 1262), some (.int x1), some (.int x2), some (.int x3), none, some (.int x5), none, some (.int x7), none, none, none, none]) ⟨rfl, ⟨rfl, ⟨rfl, ⟨rfl, ⟨rfl, ⟨rfl, trivial⟩⟩⟩⟩⟩⟩ (kb_m_vector_203 hK136 L56 hf)
      · replace hf := xi_neg hf qc50
        refine XS.go (s_iloadn rfl rfl rfl) ?_
        refine XS.go (s_aloadn rfl rfl rfl) ?_
        refine XS.go (s_getr rfl xf12_116 (LY.lt L0 (by decide)) (LY.k1262 L0) (by decide) rfl (LY.r1262_54 L0)) ?_
        refine XS.go (s_iload rfl rfl) ?_
        replace hf := xi_none hf
        obtain ⟨qk57, hf⟩ := hf
        refine XS.go (s_lalde rfl (LY.lt L0 (by decide)) (LY.k1298 L0) (inLit (LY.n1298 L0) qk57.1 qk57.2 (by decide)) rfl) ?_
        replace hf := xb_some hf
        obtain ⟨r58, e59, hf⟩ := hf
        refine r_calls rfl xsX12_isValue xm12_334 (kf_m_isValue (d := d) L0 e59) rfl rfl (dl (by decide)) (by decide) (Nat.le_of_ble_eq_true rfl) ?_
        rintro _ _ ⟨⟨rfl, rfl⟩, L60⟩
        refine XS.go (s_goto (tgt := 203) rfl rfl) ?_
        exact XR.forget (L2 := [some (.ref 1262), some (.int x1), some (.int x2), some (.int x3), none, some (.int x5), none, some (.int x7), none, none, none, none]) ⟨rfl, ⟨rfl, ⟨rfl, ⟨rfl, ⟨rfl, ⟨rfl, trivial⟩⟩⟩⟩⟩⟩ (kb_m_vector_203 hK136 L60 hf)
def b_m_vector_136 : Nat → Int32 → Int32 → Int32 → Int32 → Int32 → Int32 → XH → Option (Int32 × XH)
  | 0, _, _, _, _, _, _, _ => none
  | n + 1, x1, x2, x3, x5, x6, x7, h => s_m_vector_136 (b_m_vector_136 n) x1 x2 x3 x5 x6 x7 h
theorem kb_m_vector_136 {l : Launch} {G : XG} {d : Nat} {n : Nat} {x1 : Int32} {x2 : Int32} {x3 : Int32} {x5 : Int32} {x6 : Int32} {x7 : Int32} {h : XH} {r : Int32 × XH} (L0 : LY h) (hf : b_m_vector_136 n x1 x2 x3 x5 x6 x7 h = some r) : XR l G xEX12_vector (d + 3) (136, [some (.ref 1262), some (.int x1), some (.int x2), some (.int x3), none, some (.int x5), some (.int x6), some (.int x7), none, none, none, none], [], h) (fun C => ∃ v, xRet xEX12_vector C v ∧ (C.2.2.2 = r.2 ∧ v = some (.int r.1)) ∧ LY r.2) := by
  induction n generalizing x1 x2 x3 x5 x6 x7 h with
  | zero => cases hf
  | succ n ih => exact ks_m_vector_136 (fun x1 x2 x3 x5 x6 x7 h L0 hf => ih (h := h) (x1 := x1) (x2 := x2) (x3 := x3) (x5 := x5) (x6 := x6) (x7 := x7) L0 hf) L0 hf
def b_m_vector_131 (x1 : Int32) (x2 : Int32) (x3 : Int32) (x5 : Int32) (y0 : Int32) (h : XH) : Option (Int32 × XH) := (b_m_vector_136 100000 x1 x2 x3 x5 y0 0 h)
set_option maxRecDepth 20000 in
theorem kb_m_vector_131 {l : Launch} {G : XG} {d : Nat} {x1 : Int32} {x2 : Int32} {x3 : Int32} {x5 : Int32} {y0 : Int32} {h : XH} {r : Int32 × XH} (L0 : LY h) (hf : b_m_vector_131 x1 x2 x3 x5 y0 h = some r) : XR l G xEX12_vector (d + 3) (131, [some (.ref 1262), some (.int x1), some (.int x2), some (.int x3), none, some (.int x5), none, none, none, none, none, none], [(.int y0)], h) (fun C => ∃ v, xRet xEX12_vector C v ∧ (C.2.2.2 = r.2 ∧ v = some (.int r.1)) ∧ LY r.2) := by
  unfold b_m_vector_131 at hf
  refine XS.go (XS.lcl (L3 := [some (.ref 1262), some (.int x1), some (.int x2), some (.int x3), none, some (.int x5), some (.int y0), none, none, none, none, none]) (s_istore rfl (Nat.le_of_ble_eq_true rfl)) rfl) ?_
  refine XS.go (s_iconst (v := 0) rfl rfl) ?_
  refine XS.go (XS.lcl (L3 := [some (.ref 1262), some (.int x1), some (.int x2), some (.int x3), none, some (.int x5), some (.int y0), some (.int 0), none, none, none, none]) (s_istore rfl (Nat.le_of_ble_eq_true rfl)) rfl) ?_
  exact XR.forget (L2 := [some (.ref 1262), some (.int x1), some (.int x2), some (.int x3), none, some (.int x5), some (.int y0), some (.int 0), none, none, none, none]) ⟨rfl, ⟨rfl, ⟨rfl, ⟨rfl, ⟨rfl, ⟨rfl, ⟨rfl, trivial⟩⟩⟩⟩⟩⟩⟩ (kb_m_vector_136 L0 hf)
def b_m_vector_117 (x1 : Int32) (x2 : Int32) (x3 : Int32) (y0 : Int32) (h : XH) : Option (Int32 × XH) := (if ¬ y0 = 0 then (if ¬ (x3 - x3 / y0 * y0) = 0 then (b_m_vector_131 x1 x2 x3 y0 0 h) else (b_m_vector_131 x1 x2 x3 y0 1 h)) else none)
set_option maxRecDepth 20000 in
theorem kb_m_vector_117 {l : Launch} {G : XG} {d : Nat} {x1 : Int32} {x2 : Int32} {x3 : Int32} {y0 : Int32} {h : XH} {r : Int32 × XH} (L0 : LY h) (hf : b_m_vector_117 x1 x2 x3 y0 h = some r) : XR l G xEX12_vector (d + 3) (117, [some (.ref 1262), some (.int x1), some (.int x2), some (.int x3), none, none, none, none, none, none, none, none], [(.int y0)], h) (fun C => ∃ v, xRet xEX12_vector C v ∧ (C.2.2.2 = r.2 ∧ v = some (.int r.1)) ∧ LY r.2) := by
  unfold b_m_vector_117 at hf
  refine XS.go (XS.lcl (L3 := [some (.ref 1262), some (.int x1), some (.int x2), some (.int x3), none, some (.int y0), none, none, none, none, none, none]) (s_istore rfl (Nat.le_of_ble_eq_true rfl)) rfl) ?_
  refine XS.go (s_iloadn rfl rfl rfl) ?_
  refine XS.go (s_iload rfl rfl) ?_
  replace hf := xi_none hf
  obtain ⟨qk61, hf⟩ := hf
  refine XS.go (s_irem qk61 rfl) ?_
  refine r_if_ne (tgt := 130) rfl rfl (fun qc62 => ?_) (fun qc62 => ?_)
  · replace hf := xi_pos hf qc62
    refine XS.go (s_iconst (v := 0) rfl rfl) ?_
    exact XR.forget (L2 := [some (.ref 1262), some (.int x1), some (.int x2), some (.int x3), none, some (.int y0), none, none, none, none, none, none]) ⟨rfl, ⟨rfl, ⟨rfl, ⟨rfl, ⟨rfl, trivial⟩⟩⟩⟩⟩ (kb_m_vector_131 L0 hf)
  · replace hf := xi_neg hf qc62
    refine XS.go (s_iconst (v := 1) rfl rfl) ?_
    refine XS.go (s_goto (tgt := 131) rfl rfl) ?_
    exact XR.forget (L2 := [some (.ref 1262), some (.int x1), some (.int x2), some (.int x3), none, some (.int y0), none, none, none, none, none, none]) ⟨rfl, ⟨rfl, ⟨rfl, ⟨rfl, ⟨rfl, trivial⟩⟩⟩⟩⟩ (kb_m_vector_131 L0 hf)
def b_m_vector_88 (x1 : Int32) (x2 : Int32) (x3 : Int32) (y0 : Int32) (h : XH) : Option (Int32 × XH) := (if ¬ y0 = 0 then (if ¬ x1 = 2 then (b_m_vector_117 x1 x2 x3 1 h) else (if 0 ≤ x2 ∧ x2 < nI 12 then (b_m_vector_117 x1 x2 x3 (hi h 1280 (Int32.toNatClampNeg x2)) h) else none)) else (some (0, (hsi h 1262 0 2))))
set_option maxRecDepth 20000 in
theorem kb_m_vector_88 {l : Launch} {G : XG} {d : Nat} {x1 : Int32} {x2 : Int32} {x3 : Int32} {y0 : Int32} {h : XH} {r : Int32 × XH} (L0 : LY h) (hf : b_m_vector_88 x1 x2 x3 y0 h = some r) : XR l G xEX12_vector (d + 3) (88, [some (.ref 1262), some (.int x1), some (.int x2), some (.int x3), none, none, none, none, none, none, none, none], [(.int y0)], h) (fun C => ∃ v, xRet xEX12_vector C v ∧ (C.2.2.2 = r.2 ∧ v = some (.int r.1)) ∧ LY r.2) := by
  unfold b_m_vector_88 at hf
  refine XS.go (XS.lcl (L3 := [some (.ref 1262), some (.int x1), some (.int x2), some (.int x3), some (.int y0), none, none, none, none, none, none, none]) (s_istore rfl (Nat.le_of_ble_eq_true rfl)) rfl) ?_
  refine XS.go (s_iload rfl rfl) ?_
  refine r_if_ne (tgt := 102) rfl rfl (fun qc63 => ?_) (fun qc63 => ?_)
  · replace hf := xi_pos hf qc63
    refine XS.go (s_iloadn rfl rfl rfl) ?_
    refine XS.go (s_iconst (v := 2) rfl rfl) ?_
    refine r_icmp_ne (tgt := 116) rfl rfl (fun qc64 => ?_) (fun qc64 => ?_)
    · replace hf := xi_pos hf qc64
      refine XS.go (s_iconst (v := 1) rfl rfl) ?_
      exact XR.forget (L2 := [some (.ref 1262), some (.int x1), some (.int x2), some (.int x3), none, none, none, none, none, none, none, none]) ⟨rfl, ⟨rfl, ⟨rfl, ⟨rfl, trivial⟩⟩⟩⟩ (kb_m_vector_117 L0 hf)
    · replace hf := xi_neg hf qc64
      refine XS.go (s_aloadn rfl rfl rfl) ?_
      refine XS.go (s_getr rfl xf12_61 (LY.lt L0 (by decide)) (LY.k1262 L0) (by decide) rfl (LY.r1262_28 L0)) ?_
      refine XS.go (s_iloadn rfl rfl rfl) ?_
      replace hf := xi_none hf
      obtain ⟨qk65, hf⟩ := hf
      refine XS.go (s_ialde rfl (LY.lt L0 (by decide)) (LY.k1280 L0) (inLit (LY.n1280 L0) qk65.1 qk65.2 (by decide)) rfl) ?_
      refine XS.go (s_goto (tgt := 117) rfl rfl) ?_
      exact XR.forget (L2 := [some (.ref 1262), some (.int x1), some (.int x2), some (.int x3), none, none, none, none, none, none, none, none]) ⟨rfl, ⟨rfl, ⟨rfl, ⟨rfl, trivial⟩⟩⟩⟩ (kb_m_vector_117 L0 hf)
  · replace hf := xi_neg hf qc63
    refine XS.go (s_aloadn rfl rfl rfl) ?_
    refine XS.go (s_iconst (v := 2) rfl rfl) ?_
    refine XS.go (s_puti rfl xf12_175 (LY.lt L0 (by decide)) (LY.k1262 L0) (by decide) rfl (Or.inl rfl)) ?_
    refine XS.go (s_iconst (v := 0) rfl rfl) ?_
    cases hf
    exact XR.reti rfl rfl (fun hret => ⟨_, hret, ⟨rfl, rfl⟩, (by simp only [LY_si, LY_sj]; exact L0)⟩)
def b_m_vector_48 (x1 : Int32) (x2 : Int32) (x3 : Int32) (h : XH) : Option (Int32 × XH) := (b_m_vector_88 x1 x2 x3 0 h)
set_option maxRecDepth 20000 in
theorem kb_m_vector_48 {l : Launch} {G : XG} {d : Nat} {x1 : Int32} {x2 : Int32} {x3 : Int32} {h : XH} {r : Int32 × XH} (L0 : LY h) (hf : b_m_vector_48 x1 x2 x3 h = some r) : XR l G xEX12_vector (d + 3) (48, [some (.ref 1262), some (.int x1), some (.int x2), some (.int x3), none, none, none, none, none, none, none, none], [], h) (fun C => ∃ v, xRet xEX12_vector C v ∧ (C.2.2.2 = r.2 ∧ v = some (.int r.1)) ∧ LY r.2) := by
  unfold b_m_vector_48 at hf
  refine XS.go (s_iconst (v := 0) rfl rfl) ?_
  refine XS.go (s_goto (tgt := 88) rfl rfl) ?_
  exact XR.forget (L2 := [some (.ref 1262), some (.int x1), some (.int x2), some (.int x3), none, none, none, none, none, none, none, none]) ⟨rfl, ⟨rfl, ⟨rfl, ⟨rfl, trivial⟩⟩⟩⟩ (kb_m_vector_88 L0 hf)
def f_m_vector (a0 : Int32) (a1 : Int32) (h : XH) : Option (Int32 × XH) := (if (hi h 1262 67) = (-1) then (if ¬ a0 = 0 then (if ¬ a0 = 2 then (if ¬ a0 = 3 then (if ¬ a0 = 1 then (b_m_vector_88 a0 a1 (hi h 1262 55) 0 (hsi (hsi h 1262 0 0) 1262 55 0)) else (b_m_vector_88 a0 a1 (hi h 1262 55) 1 (hsi (hsi h 1262 0 0) 1262 55 0))) else (Option.bind (f_m_isTable a1 (hsi (hsi h 1262 0 0) 1262 55 0)) fun r71 => (b_m_vector_88 a0 a1 (hi h 1262 55) r71.1 r71.2))) else (Option.bind (f_m_isStruct a1 (hsi (hsi h 1262 0 0) 1262 55 0)) fun r74 => (b_m_vector_88 a0 a1 (hi h 1262 55) r74.1 r74.2))) else (if a1 < 0 then (b_m_vector_48 a0 a1 (hi h 1262 55) (hsi (hsi h 1262 0 0) 1262 55 0)) else (if 10 < a1 then (b_m_vector_48 a0 a1 (hi h 1262 55) (hsi (hsi h 1262 0 0) 1262 55 0)) else (b_m_vector_88 a0 a1 (hi h 1262 55) 1 (hsi (hsi h 1262 0 0) 1262 55 0))))) else (some (0, (hsi (hsi (hsi h 1262 0 0) 1262 55 0) 1262 0 1))))
set_option maxRecDepth 20000 in
theorem kf_m_vector {l : Launch} {G : XG} {d : Nat} {a0 : Int32} {a1 : Int32} {h : XH} {r : Int32 × XH} (L0 : LY h) (hf : f_m_vector a0 a1 h = some r) : XC l G xEX12_vector (d + 3) [.ref 1262, .int a0, .int a1] h (fun v h2 => (h2 = r.2 ∧ v = some (.int r.1)) ∧ LY r.2) := by
  refine XC.virt xvX12_vector (Nat.le_of_ble_eq_true rfl) ?_
  unfold f_m_vector at hf
  refine XR.norm (L3 := [some (.ref 1262), some (.int a0), some (.int a1), none, none, none, none, none, none, none, none, none]) rfl ?_
  refine XS.go (s_aloadn rfl rfl rfl) ?_
  refine XS.go (s_iconst (v := 0) rfl rfl) ?_
  refine XS.go (s_puti rfl xf12_175 (LY.lt L0 (by decide)) (LY.k1262 L0) (by decide) rfl (Or.inl rfl)) ?_
  refine XS.go (s_aloadn rfl rfl rfl) ?_
  refine XS.go (s_getie rfl xf12_379 (LY.lt (by simp only [LY_si, LY_sj]; exact L0) (by decide)) (LY.k1262 (by simp only [LY_si, LY_sj]; exact L0)) (by decide) rfl (hi_hsi_nk (by decide))) ?_
  refine XS.go (XS.lcl (L3 := [some (.ref 1262), some (.int a0), some (.int a1), some (.int (hi h 1262 55)), none, none, none, none, none, none, none, none]) (s_istoren rfl rfl (Nat.le_of_ble_eq_true rfl)) rfl) ?_
  refine XS.go (s_aloadn rfl rfl rfl) ?_
  refine XS.go (s_iconst (v := 0) rfl rfl) ?_
  refine XS.go (s_puti rfl xf12_379 (LY.lt (by simp only [LY_si, LY_sj]; exact L0) (by decide)) (LY.k1262 (by simp only [LY_si, LY_sj]; exact L0)) (by decide) rfl (Or.inl rfl)) ?_
  refine XS.go (s_aloadn rfl rfl rfl) ?_
  refine XS.go (s_getie rfl xf12_140 (LY.lt (by simp only [LY_si, LY_sj]; exact L0) (by decide)) (LY.k1262 (by simp only [LY_si, LY_sj]; exact L0)) (by decide) rfl ((hi_hsi_nk (by decide)).trans (hi_hsi_nk (by decide)))) ?_
  refine XS.go (s_iconst (v := (-1)) rfl rfl) ?_
  refine r_icmp_eq (tgt := 30) rfl rfl (fun qc66 => ?_) (fun qc66 => ?_)
  · replace hf := xi_pos hf qc66
    refine XS.go (s_iloadn rfl rfl rfl) ?_
    refine r_if_ne (tgt := 52) rfl rfl (fun qc67 => ?_) (fun qc67 => ?_)
    · replace hf := xi_pos hf qc67
      refine XS.go (s_iloadn rfl rfl rfl) ?_
      refine XS.go (s_iconst (v := 2) rfl rfl) ?_
      refine r_icmp_ne (tgt := 65) rfl rfl (fun qc68 => ?_) (fun qc68 => ?_)
      · replace hf := xi_pos hf qc68
        refine XS.go (s_iloadn rfl rfl rfl) ?_
        refine XS.go (s_iconst (v := 3) rfl rfl) ?_
        refine r_icmp_ne (tgt := 78) rfl rfl (fun qc69 => ?_) (fun qc69 => ?_)
        · replace hf := xi_pos hf qc69
          refine XS.go (s_iloadn rfl rfl rfl) ?_
          refine XS.go (s_iconst (v := 1) rfl rfl) ?_
          refine r_icmp_ne (tgt := 87) rfl rfl (fun qc70 => ?_) (fun qc70 => ?_)
          · replace hf := xi_pos hf qc70
            refine XS.go (s_iconst (v := 0) rfl rfl) ?_
            exact XR.forget (L2 := [some (.ref 1262), some (.int a0), some (.int a1), some (.int (hi h 1262 55)), none, none, none, none, none, none, none, none]) ⟨rfl, ⟨rfl, ⟨rfl, ⟨rfl, trivial⟩⟩⟩⟩ (kb_m_vector_88 (by simp only [LY_si, LY_sj]; exact L0) hf)
          · replace hf := xi_neg hf qc70
            refine XS.go (s_iconst (v := 1) rfl rfl) ?_
            refine XS.go (s_goto (tgt := 88) rfl rfl) ?_
            exact XR.forget (L2 := [some (.ref 1262), some (.int a0), some (.int a1), some (.int (hi h 1262 55)), none, none, none, none, none, none, none, none]) ⟨rfl, ⟨rfl, ⟨rfl, ⟨rfl, trivial⟩⟩⟩⟩ (kb_m_vector_88 (by simp only [LY_si, LY_sj]; exact L0) hf)
        · replace hf := xi_neg hf qc69
          refine XS.go (s_aloadn rfl rfl rfl) ?_
          refine XS.go (s_iloadn rfl rfl rfl) ?_
          replace hf := xb_some hf
          obtain ⟨r71, e72, hf⟩ := hf
          refine r_callv rfl xvX12_isTable xm12_372 (kf_m_isTable (d := d) (by simp only [LY_si, LY_sj]; exact L0) e72) (LY.lt (by simp only [LY_si, LY_sj]; exact L0) (by decide)) (LY.k1262 (by simp only [LY_si, LY_sj]; exact L0)) (by decide) rfl rfl (dl0 (by decide)) (by decide) (Nat.le_of_ble_eq_true rfl) ?_
          rintro _ _ ⟨⟨rfl, rfl⟩, L73⟩
          refine XS.go (s_goto (tgt := 88) rfl rfl) ?_
          exact XR.forget (L2 := [some (.ref 1262), some (.int a0), some (.int a1), some (.int (hi h 1262 55)), none, none, none, none, none, none, none, none]) ⟨rfl, ⟨rfl, ⟨rfl, ⟨rfl, trivial⟩⟩⟩⟩ (kb_m_vector_88 L73 hf)
      · replace hf := xi_neg hf qc68
        refine XS.go (s_aloadn rfl rfl rfl) ?_
        refine XS.go (s_iloadn rfl rfl rfl) ?_
        replace hf := xb_some hf
        obtain ⟨r74, e75, hf⟩ := hf
        refine r_callv rfl xvX12_isStruct xm12_369 (kf_m_isStruct (d := d) (by simp only [LY_si, LY_sj]; exact L0) e75) (LY.lt (by simp only [LY_si, LY_sj]; exact L0) (by decide)) (LY.k1262 (by simp only [LY_si, LY_sj]; exact L0)) (by decide) rfl rfl (dl0 (by decide)) (by decide) (Nat.le_of_ble_eq_true rfl) ?_
        rintro _ _ ⟨⟨rfl, rfl⟩, L76⟩
        refine XS.go (s_goto (tgt := 88) rfl rfl) ?_
        exact XR.forget (L2 := [some (.ref 1262), some (.int a0), some (.int a1), some (.int (hi h 1262 55)), none, none, none, none, none, none, none, none]) ⟨rfl, ⟨rfl, ⟨rfl, ⟨rfl, trivial⟩⟩⟩⟩ (kb_m_vector_88 L76 hf)
    · replace hf := xi_neg hf qc67
      refine XS.go (s_iloadn rfl rfl rfl) ?_
      refine r_if_lt (tgt := 48) rfl rfl (fun qc77 => ?_) (fun qc77 => ?_)
      · replace hf := xi_pos hf qc77
        exact XR.forget (L2 := [some (.ref 1262), some (.int a0), some (.int a1), some (.int (hi h 1262 55)), none, none, none, none, none, none, none, none]) ⟨rfl, ⟨rfl, ⟨rfl, ⟨rfl, trivial⟩⟩⟩⟩ (kb_m_vector_48 (by simp only [LY_si, LY_sj]; exact L0) hf)
      · replace hf := xi_neg hf qc77
        refine XS.go (s_iloadn rfl rfl rfl) ?_
        refine XS.go (s_bipush (v := 10) rfl rfl) ?_
        refine r_icmp_gt (tgt := 48) rfl rfl (fun qc78 => ?_) (fun qc78 => ?_)
        · replace hf := xi_pos hf qc78
          exact XR.forget (L2 := [some (.ref 1262), some (.int a0), some (.int a1), some (.int (hi h 1262 55)), none, none, none, none, none, none, none, none]) ⟨rfl, ⟨rfl, ⟨rfl, ⟨rfl, trivial⟩⟩⟩⟩ (kb_m_vector_48 (by simp only [LY_si, LY_sj]; exact L0) hf)
        · replace hf := xi_neg hf qc78
          refine XS.go (s_iconst (v := 1) rfl rfl) ?_
          refine XS.go (s_goto (tgt := 88) rfl rfl) ?_
          exact XR.forget (L2 := [some (.ref 1262), some (.int a0), some (.int a1), some (.int (hi h 1262 55)), none, none, none, none, none, none, none, none]) ⟨rfl, ⟨rfl, ⟨rfl, ⟨rfl, trivial⟩⟩⟩⟩ (kb_m_vector_88 (by simp only [LY_si, LY_sj]; exact L0) hf)
  · replace hf := xi_neg hf qc66
    refine XS.go (s_aloadn rfl rfl rfl) ?_
    refine XS.go (s_iconst (v := 1) rfl rfl) ?_
    refine XS.go (s_puti rfl xf12_175 (LY.lt (by simp only [LY_si, LY_sj]; exact L0) (by decide)) (LY.k1262 (by simp only [LY_si, LY_sj]; exact L0)) (by decide) rfl (Or.inl rfl)) ?_
    refine XS.go (s_iconst (v := 0) rfl rfl) ?_
    cases hf
    exact XR.reti rfl rfl (fun hret => ⟨_, hret, ⟨rfl, rfl⟩, (by simp only [LY_si, LY_sj]; exact L0)⟩)
def s_m_begin_73 (K73 : Int32 → XH → Option (Unit × XH)) (x2 : Int32) (h : XH) : Option (Unit × XH) := (if 32 ≤ x2 then (some ((), h)) else (if 0 ≤ x2 ∧ x2 < nI 32 then (K73 (x2 + 1) (hsi h 1307 (Int32.toNatClampNeg x2) 0)) else none))
set_option maxRecDepth 20000 in
theorem ks_m_begin_73 {l : Launch} {G : XG} {d : Nat} {K73 : Int32 → XH → Option (Unit × XH)} {x2 : Int32} {h : XH} {r : Unit × XH} (hK73 : ∀ (x2 : Int32) (h : XH), LY h → K73 x2 h = some r → XR l G xEX12_begin (d + 1) (73, [some (.ref 1262), none, some (.int x2)], [], h) (fun C => ∃ v, xRet xEX12_begin C v ∧ (C.2.2.2 = r.2 ∧ v = none) ∧ LY r.2)) (L0 : LY h) (hf : s_m_begin_73 K73 x2 h = some r) : XR l G xEX12_begin (d + 1) (73, [some (.ref 1262), none, some (.int x2)], [], h) (fun C => ∃ v, xRet xEX12_begin C v ∧ (C.2.2.2 = r.2 ∧ v = none) ∧ LY r.2) := by
  unfold s_m_begin_73 at hf
  refine XS.go (s_iloadn rfl rfl rfl) ?_
  refine XS.go (s_bipush (v := 32) rfl rfl) ?_
  refine r_icmp_ge (tgt := 92) rfl rfl (fun qc1 => ?_) (fun qc1 => ?_)
  · replace hf := xi_pos hf qc1
    cases hf
    exact XR.retv rfl rfl (fun hret => ⟨_, hret, ⟨rfl, rfl⟩, L0⟩)
  · replace hf := xi_neg hf qc1
    refine XS.go (s_aloadn rfl rfl rfl) ?_
    refine XS.go (s_getr rfl xf12_148 (LY.lt L0 (by decide)) (LY.k1262 L0) (by decide) rfl (LY.r1262_70 L0)) ?_
    refine XS.go (s_iloadn rfl rfl rfl) ?_
    refine XS.go (s_iconst (v := 0) rfl rfl) ?_
    replace hf := xi_none hf
    obtain ⟨qk2, hf⟩ := hf
    refine XS.go (s_iast rfl (LY.lt L0 (by decide)) (LY.k1307 L0) (inLit (LY.n1307 L0) qk2.1 qk2.2 (by decide))) ?_
    refine XS.go (XS.lcl (L3 := [some (.ref 1262), none, some (.int (x2 + 1))]) (s_inc rfl rfl (Nat.le_of_ble_eq_true rfl)) rfl) ?_
    refine XS.go (s_goto (tgt := 73) rfl rfl) ?_
    exact XR.forget (L2 := [some (.ref 1262), none, some (.int (x2 + 1))]) ⟨rfl, ⟨rfl, trivial⟩⟩ (hK73 (x2 + 1) _ (by simp only [LY_si, LY_sj]; exact L0) hf)
def b_m_begin_73 : Nat → Int32 → XH → Option (Unit × XH)
  | 0, _, _ => none
  | n + 1, x2, h => s_m_begin_73 (b_m_begin_73 n) x2 h
theorem kb_m_begin_73 {l : Launch} {G : XG} {d : Nat} {n : Nat} {x2 : Int32} {h : XH} {r : Unit × XH} (L0 : LY h) (hf : b_m_begin_73 n x2 h = some r) : XR l G xEX12_begin (d + 1) (73, [some (.ref 1262), none, some (.int x2)], [], h) (fun C => ∃ v, xRet xEX12_begin C v ∧ (C.2.2.2 = r.2 ∧ v = none) ∧ LY r.2) := by
  induction n generalizing x2 h with
  | zero => cases hf
  | succ n ih => exact ks_m_begin_73 (fun x2 h L0 hf => ih (h := h) (x2 := x2) L0 hf) L0 hf
def s_m_begin_52 (K52 : Int32 → XH → Option (Unit × XH)) (x2 : Int32) (h : XH) : Option (Unit × XH) := (if 16 ≤ x2 then (b_m_begin_73 100000 0 h) else (if 0 ≤ x2 ∧ x2 < nI 16 then (K52 (x2 + 1) (hsi h 1306 (Int32.toNatClampNeg x2) (vp_nar .boolean 0))) else none))
set_option maxRecDepth 20000 in
theorem ks_m_begin_52 {l : Launch} {G : XG} {d : Nat} {K52 : Int32 → XH → Option (Unit × XH)} {x2 : Int32} {h : XH} {r : Unit × XH} (hK52 : ∀ (x2 : Int32) (h : XH), LY h → K52 x2 h = some r → XR l G xEX12_begin (d + 1) (52, [some (.ref 1262), none, some (.int x2)], [], h) (fun C => ∃ v, xRet xEX12_begin C v ∧ (C.2.2.2 = r.2 ∧ v = none) ∧ LY r.2)) (L0 : LY h) (hf : s_m_begin_52 K52 x2 h = some r) : XR l G xEX12_begin (d + 1) (52, [some (.ref 1262), none, some (.int x2)], [], h) (fun C => ∃ v, xRet xEX12_begin C v ∧ (C.2.2.2 = r.2 ∧ v = none) ∧ LY r.2) := by
  unfold s_m_begin_52 at hf
  refine XS.go (s_iloadn rfl rfl rfl) ?_
  refine XS.go (s_bipush (v := 16) rfl rfl) ?_
  refine r_icmp_ge (tgt := 71) rfl rfl (fun qc3 => ?_) (fun qc3 => ?_)
  · replace hf := xi_pos hf qc3
    refine XS.go (s_iconst (v := 0) rfl rfl) ?_
    refine XS.go (XS.lcl (L3 := [some (.ref 1262), none, some (.int 0)]) (s_istoren rfl rfl (Nat.le_of_ble_eq_true rfl)) rfl) ?_
    exact XR.forget (L2 := [some (.ref 1262), none, some (.int 0)]) ⟨rfl, ⟨rfl, trivial⟩⟩ (kb_m_begin_73 L0 hf)
  · replace hf := xi_neg hf qc3
    refine XS.go (s_aloadn rfl rfl rfl) ?_
    refine XS.go (s_getr rfl xf12_144 (LY.lt L0 (by decide)) (LY.k1262 L0) (by decide) rfl (LY.r1262_69 L0)) ?_
    refine XS.go (s_iloadn rfl rfl rfl) ?_
    refine XS.go (s_iconst (v := 0) rfl rfl) ?_
    replace hf := xi_none hf
    obtain ⟨qk4, hf⟩ := hf
    refine XS.go (s_zast rfl (LY.lt L0 (by decide)) (LY.k1306 L0) (inLit (LY.n1306 L0) qk4.1 qk4.2 (by decide))) ?_
    refine XS.go (XS.lcl (L3 := [some (.ref 1262), none, some (.int (x2 + 1))]) (s_inc rfl rfl (Nat.le_of_ble_eq_true rfl)) rfl) ?_
    refine XS.go (s_goto (tgt := 52) rfl rfl) ?_
    exact XR.forget (L2 := [some (.ref 1262), none, some (.int (x2 + 1))]) ⟨rfl, ⟨rfl, trivial⟩⟩ (hK52 (x2 + 1) _ (by simp only [LY_si, LY_sj]; exact L0) hf)
def b_m_begin_52 : Nat → Int32 → XH → Option (Unit × XH)
  | 0, _, _ => none
  | n + 1, x2, h => s_m_begin_52 (b_m_begin_52 n) x2 h
theorem kb_m_begin_52 {l : Launch} {G : XG} {d : Nat} {n : Nat} {x2 : Int32} {h : XH} {r : Unit × XH} (L0 : LY h) (hf : b_m_begin_52 n x2 h = some r) : XR l G xEX12_begin (d + 1) (52, [some (.ref 1262), none, some (.int x2)], [], h) (fun C => ∃ v, xRet xEX12_begin C v ∧ (C.2.2.2 = r.2 ∧ v = none) ∧ LY r.2) := by
  induction n generalizing x2 h with
  | zero => cases hf
  | succ n ih => exact ks_m_begin_52 (fun x2 h L0 hf => ih (h := h) (x2 := x2) L0 hf) L0 hf
def f_m_begin (a0 : Int32) (h : XH) : Option (Unit × XH) := (if (hi h 1262 67) = (-1) then (Option.bind (f_m_isTable a0 (hsi h 1262 0 0)) fun r6 => (if ¬ r6.1 = 0 then (b_m_begin_52 100000 0 (hsi (hsi r6.2 1262 67 a0) 1262 68 (hi r6.2 1262 57))) else (some ((), (hsi r6.2 1262 0 2))))) else (some ((), (hsi (hsi h 1262 0 0) 1262 0 1))))
set_option maxRecDepth 20000 in
theorem kf_m_begin {l : Launch} {G : XG} {d : Nat} {a0 : Int32} {h : XH} {r : Unit × XH} (L0 : LY h) (hf : f_m_begin a0 h = some r) : XC l G xEX12_begin (d + 1) [.ref 1262, .int a0] h (fun v h2 => (h2 = r.2 ∧ v = none) ∧ LY r.2) := by
  refine XC.virt xvX12_begin (Nat.le_of_ble_eq_true rfl) ?_
  unfold f_m_begin at hf
  refine XR.norm (L3 := [some (.ref 1262), some (.int a0), none]) rfl ?_
  refine XS.go (s_aloadn rfl rfl rfl) ?_
  refine XS.go (s_iconst (v := 0) rfl rfl) ?_
  refine XS.go (s_puti rfl xf12_175 (LY.lt L0 (by decide)) (LY.k1262 L0) (by decide) rfl (Or.inl rfl)) ?_
  refine XS.go (s_aloadn rfl rfl rfl) ?_
  refine XS.go (s_getie rfl xf12_140 (LY.lt (by simp only [LY_si, LY_sj]; exact L0) (by decide)) (LY.k1262 (by simp only [LY_si, LY_sj]; exact L0)) (by decide) rfl (hi_hsi_nk (by decide))) ?_
  refine XS.go (s_iconst (v := (-1)) rfl rfl) ?_
  refine r_icmp_eq (tgt := 21) rfl rfl (fun qc5 => ?_) (fun qc5 => ?_)
  · replace hf := xi_pos hf qc5
    refine XS.go (s_aloadn rfl rfl rfl) ?_
    refine XS.go (s_iloadn rfl rfl rfl) ?_
    replace hf := xb_some hf
    obtain ⟨r6, e7, hf⟩ := hf
    refine r_callv rfl xvX12_isTable xm12_372 (kf_m_isTable (d := d) (by simp only [LY_si, LY_sj]; exact L0) e7) (LY.lt (by simp only [LY_si, LY_sj]; exact L0) (by decide)) (LY.k1262 (by simp only [LY_si, LY_sj]; exact L0)) (by decide) rfl rfl (dl0 (by decide)) (by decide) (Nat.le_of_ble_eq_true rfl) ?_
    rintro _ _ ⟨⟨rfl, rfl⟩, L8⟩
    refine r_if_ne (tgt := 37) rfl rfl (fun qc9 => ?_) (fun qc9 => ?_)
    · replace hf := xi_pos hf qc9
      refine XS.go (s_aloadn rfl rfl rfl) ?_
      refine XS.go (s_iloadn rfl rfl rfl) ?_
      refine XS.go (s_puti rfl xf12_140 (LY.lt L8 (by decide)) (LY.k1262 L8) (by decide) rfl (Or.inl rfl)) ?_
      refine XS.go (s_aloadn rfl rfl rfl) ?_
      refine XS.go (s_aloadn rfl rfl rfl) ?_
      refine XS.go (s_getie rfl xf12_382 (LY.lt (by simp only [LY_si, LY_sj]; exact L8) (by decide)) (LY.k1262 (by simp only [LY_si, LY_sj]; exact L8)) (by decide) rfl (hi_hsi_nk (by decide))) ?_
      refine XS.go (s_puti rfl xf12_426 (LY.lt (by simp only [LY_si, LY_sj]; exact L8) (by decide)) (LY.k1262 (by simp only [LY_si, LY_sj]; exact L8)) (by decide) rfl (Or.inl rfl)) ?_
      refine XS.go (s_iconst (v := 0) rfl rfl) ?_
      refine XS.go (XS.lcl (L3 := [some (.ref 1262), some (.int a0), some (.int 0)]) (s_istoren rfl rfl (Nat.le_of_ble_eq_true rfl)) rfl) ?_
      exact XR.forget (L2 := [some (.ref 1262), none, some (.int 0)]) ⟨rfl, ⟨rfl, trivial⟩⟩ (kb_m_begin_52 (by simp only [LY_si, LY_sj]; exact L8) hf)
    · replace hf := xi_neg hf qc9
      refine XS.go (s_aloadn rfl rfl rfl) ?_
      refine XS.go (s_iconst (v := 2) rfl rfl) ?_
      refine XS.go (s_puti rfl xf12_175 (LY.lt L8 (by decide)) (LY.k1262 L8) (by decide) rfl (Or.inl rfl)) ?_
      refine XS.go (s_goto (tgt := 92) rfl rfl) ?_
      cases hf
      exact XR.retv rfl rfl (fun hret => ⟨_, hret, ⟨rfl, rfl⟩, (by simp only [LY_si, LY_sj]; exact L8)⟩)
  · replace hf := xi_neg hf qc5
    refine XS.go (s_aloadn rfl rfl rfl) ?_
    refine XS.go (s_iconst (v := 1) rfl rfl) ?_
    refine XS.go (s_puti rfl xf12_175 (LY.lt (by simp only [LY_si, LY_sj]; exact L0) (by decide)) (LY.k1262 (by simp only [LY_si, LY_sj]; exact L0)) (by decide) rfl (Or.inl rfl)) ?_
    refine XS.go (s_goto (tgt := 92) rfl rfl) ?_
    cases hf
    exact XR.retv rfl rfl (fun hret => ⟨_, hret, ⟨rfl, rfl⟩, (by simp only [LY_si, LY_sj]; exact L0)⟩)
def b_m_fits_128 (x1 : Int32) (y0 : Int32) (h : XH) : Option (Int32 × XH) := (if y0 = 0 then (some (0, h)) else (if 0 ≤ x1 ∧ x1 < nI 256 then (if 0 ≤ (((8 * (hi h 1287 (Int32.toNatClampNeg x1))) + (Int64.toInt32 (hj h 1298 (Int32.toNatClampNeg 0)))) - 1) ∧ (((8 * (hi h 1287 (Int32.toNatClampNeg x1))) + (Int64.toInt32 (hj h 1298 (Int32.toNatClampNeg 0)))) - 1) < nI 64 then (Option.bind (f_m_isThing (hj h 1298 (Int32.toNatClampNeg 1)) 3 (-1) (hi h 1294 (Int32.toNatClampNeg (((8 * (hi h 1287 (Int32.toNatClampNeg x1))) + (Int64.toInt32 (hj h 1298 (Int32.toNatClampNeg 0)))) - 1))) h) fun r4 => (if r4.1 = 0 then (some (0, r4.2)) else (some (1, r4.2)))) else none) else none))
set_option maxRecDepth 20000 in
theorem kb_m_fits_128 {l : Launch} {G : XG} {d : Nat} {x1 : Int32} {y0 : Int32} {h : XH} {r : Int32 × XH} (L0 : LY h) (hf : b_m_fits_128 x1 y0 h = some r) : XR l G xEX12_fits (d + 3) (128, [some (.ref 1262), some (.int x1), none, none, none], [(.int y0)], h) (fun C => ∃ v, xRet xEX12_fits C v ∧ (C.2.2.2 = r.2 ∧ v = some (.int r.1)) ∧ LY r.2) := by
  unfold b_m_fits_128 at hf
  refine XS.go (XS.lcl (L3 := [some (.ref 1262), some (.int x1), none, none, some (.int y0)]) (s_istore rfl (Nat.le_of_ble_eq_true rfl)) rfl) ?_
  refine XS.go (s_iload rfl rfl) ?_
  refine r_if_eq (tgt := 178) rfl rfl (fun qc1 => ?_) (fun qc1 => ?_)
  · replace hf := xi_pos hf qc1
    refine XS.go (s_iconst (v := 0) rfl rfl) ?_
    cases hf
    exact XR.retz rfl rfl (by decide) (fun hret => ⟨_, hret, ⟨rfl, rfl⟩, L0⟩)
  · replace hf := xi_neg hf qc1
    refine XS.go (s_aloadn rfl rfl rfl) ?_
    refine XS.go (s_aloadn rfl rfl rfl) ?_
    refine XS.go (s_getr rfl xf12_116 (LY.lt L0 (by decide)) (LY.k1262 L0) (by decide) rfl (LY.r1262_54 L0)) ?_
    refine XS.go (s_iconst (v := 1) rfl rfl) ?_
    refine XS.go (s_lalde rfl (LY.lt L0 (by decide)) (LY.k1298 L0) (inN (k := 1) (LY.n1298 L0) rfl (by decide) (by decide)) rfl) ?_
    refine XS.go (s_iconst (v := 3) rfl rfl) ?_
    refine XS.go (s_iconst (v := (-1)) rfl rfl) ?_
    refine XS.go (s_aloadn rfl rfl rfl) ?_
    refine XS.go (s_getr rfl xf12_104 (LY.lt L0 (by decide)) (LY.k1262 L0) (by decide) rfl (LY.r1262_44 L0)) ?_
    refine XS.go (s_bipush (v := 8) rfl rfl) ?_
    refine XS.go (s_aloadn rfl rfl rfl) ?_
    refine XS.go (s_getr rfl xf12_82 (LY.lt L0 (by decide)) (LY.k1262 L0) (by decide) rfl (LY.r1262_36 L0)) ?_
    refine XS.go (s_iloadn rfl rfl rfl) ?_
    replace hf := xi_none hf
    obtain ⟨qk2, hf⟩ := hf
    refine XS.go (s_ialde rfl (LY.lt L0 (by decide)) (LY.k1287 L0) (inLit (LY.n1287 L0) qk2.1 qk2.2 (by decide)) rfl) ?_
    refine XS.go (s_imul rfl) ?_
    refine XS.go (s_aloadn rfl rfl rfl) ?_
    refine XS.go (s_getr rfl xf12_116 (LY.lt L0 (by decide)) (LY.k1262 L0) (by decide) rfl (LY.r1262_54 L0)) ?_
    refine XS.go (s_iconst (v := 0) rfl rfl) ?_
    refine XS.go (s_lalde rfl (LY.lt L0 (by decide)) (LY.k1298 L0) (inN (k := 0) (LY.n1298 L0) rfl (by decide) (by decide)) rfl) ?_
    refine XS.go (s_l2i rfl) ?_
    refine XS.go (s_iadd rfl) ?_
    refine XS.go (s_iconst (v := 1) rfl rfl) ?_
    refine XS.go (s_isub rfl) ?_
    replace hf := xi_none hf
    obtain ⟨qk3, hf⟩ := hf
    refine XS.go (s_ialde rfl (LY.lt L0 (by decide)) (LY.k1294 L0) (inLit (LY.n1294 L0) qk3.1 qk3.2 (by decide)) rfl) ?_
    replace hf := xb_some hf
    obtain ⟨r4, e5, hf⟩ := hf
    refine r_callv rfl xvX12_isThing xm12_416 (kf_m_isThing (d := d) L0 e5) (LY.lt L0 (by decide)) (LY.k1262 L0) (by decide) rfl rfl (dl0 (by decide)) (by decide) (Nat.le_of_ble_eq_true rfl) ?_
    rintro _ _ ⟨⟨rfl, rfl⟩, L6⟩
    refine r_if_eq (tgt := 178) rfl rfl (fun qc7 => ?_) (fun qc7 => ?_)
    · replace hf := xi_pos hf qc7
      refine XS.go (s_iconst (v := 0) rfl rfl) ?_
      cases hf
      exact XR.retz rfl rfl (by decide) (fun hret => ⟨_, hret, ⟨rfl, rfl⟩, L6⟩)
    · replace hf := xi_neg hf qc7
      refine XS.go (s_iconst (v := 1) rfl rfl) ?_
      refine XS.go (s_goto (tgt := 179) rfl rfl) ?_
      cases hf
      exact XR.retz rfl rfl (by decide) (fun hret => ⟨_, hret, ⟨rfl, rfl⟩, L6⟩)
def b_m_fits_127 (x1 : Int32) (h : XH) : Option (Int32 × XH) := (b_m_fits_128 x1 0 h)
set_option maxRecDepth 20000 in
theorem kb_m_fits_127 {l : Launch} {G : XG} {d : Nat} {x1 : Int32} {h : XH} {r : Int32 × XH} (L0 : LY h) (hf : b_m_fits_127 x1 h = some r) : XR l G xEX12_fits (d + 3) (127, [some (.ref 1262), some (.int x1), none, none, none], [], h) (fun C => ∃ v, xRet xEX12_fits C v ∧ (C.2.2.2 = r.2 ∧ v = some (.int r.1)) ∧ LY r.2) := by
  unfold b_m_fits_127 at hf
  refine XS.go (s_iconst (v := 0) rfl rfl) ?_
  exact XR.forget (L2 := [some (.ref 1262), some (.int x1), none, none, none]) ⟨rfl, ⟨rfl, trivial⟩⟩ (kb_m_fits_128 L0 hf)
def f_m_fits (a0 : Int32) (a1 : Int32) (h : XH) : Option (Int32 × XH) := (if 0 ≤ a0 ∧ a0 < nI 256 then (if ¬ (hi h 1286 (Int32.toNatClampNeg a0)) = 0 then (if ¬ (hi h 1286 (Int32.toNatClampNeg a0)) = 2 then (if ¬ (hi h 1286 (Int32.toNatClampNeg a0)) = 4 then (if ¬ a1 = 1 then (some (0, h)) else (Option.bind (f_m_isThing (hj h 1298 (Int32.toNatClampNeg 0)) (hi h 1286 (Int32.toNatClampNeg a0)) (hi h 1288 (Int32.toNatClampNeg a0)) (hi h 1287 (Int32.toNatClampNeg a0)) h) fun r13 => (if r13.1 = 0 then (some (0, r13.2)) else (some (1, r13.2))))) else (if ¬ a1 = 2 then (b_m_fits_127 a0 h) else (if (lg_cmp (hj h 1298 (Int32.toNatClampNeg 0)) (1 : Int64)) < 0 then (b_m_fits_127 a0 h) else (if 0 ≤ (hi h 1287 (Int32.toNatClampNeg a0)) ∧ (hi h 1287 (Int32.toNatClampNeg a0)) < nI 8 then (if 0 < (lg_cmp (hj h 1298 (Int32.toNatClampNeg 0)) (Int32.toInt64 (hi h 1292 (Int32.toNatClampNeg (hi h 1287 (Int32.toNatClampNeg a0)))))) then (b_m_fits_127 a0 h) else (b_m_fits_128 a0 1 h)) else none)))) else (if 0 ≤ (hi h 1287 (Int32.toNatClampNeg a0)) ∧ (hi h 1287 (Int32.toNatClampNeg a0)) < nI 12 then (if ¬ a1 = (hi h 1280 (Int32.toNatClampNeg (hi h 1287 (Int32.toNatClampNeg a0)))) then (some (0, h)) else (Option.bind (f_m_areOfStruct (hi h 1287 (Int32.toNatClampNeg a0)) 0 h) fun r23 => (if r23.1 = 0 then (some (0, r23.2)) else (some (1, r23.2))))) else none)) else (if ¬ a1 = 1 then (some (0, h)) else (Option.bind (f_m_isValue (hi h 1287 (Int32.toNatClampNeg a0)) (hj h 1298 (Int32.toNatClampNeg 0)) h) fun r28 => (if r28.1 = 0 then (some (0, r28.2)) else (some (1, r28.2)))))) else none)
set_option maxRecDepth 20000 in
theorem kf_m_fits {l : Launch} {G : XG} {d : Nat} {a0 : Int32} {a1 : Int32} {h : XH} {r : Int32 × XH} (L0 : LY h) (hf : f_m_fits a0 a1 h = some r) : XC l G xEX12_fits (d + 3) [.ref 1262, .int a0, .int a1] h (fun v h2 => (h2 = r.2 ∧ v = some (.int r.1)) ∧ LY r.2) := by
  refine XC.virt xvX12_fits (Nat.le_of_ble_eq_true rfl) ?_
  unfold f_m_fits at hf
  refine XR.norm (L3 := [some (.ref 1262), some (.int a0), some (.int a1), none, none]) rfl ?_
  refine XS.go (s_aloadn rfl rfl rfl) ?_
  refine XS.go (s_getr rfl xf12_79 (LY.lt L0 (by decide)) (LY.k1262 L0) (by decide) rfl (LY.r1262_35 L0)) ?_
  refine XS.go (s_iloadn rfl rfl rfl) ?_
  replace hf := xi_none hf
  obtain ⟨qk8, hf⟩ := hf
  refine XS.go (s_ialde rfl (LY.lt L0 (by decide)) (LY.k1286 L0) (inLit (LY.n1286 L0) qk8.1 qk8.2 (by decide)) rfl) ?_
  refine XS.go (XS.lcl (L3 := [some (.ref 1262), some (.int a0), some (.int a1), some (.int (hi h 1286 (Int32.toNatClampNeg a0))), none]) (s_istoren rfl rfl (Nat.le_of_ble_eq_true rfl)) rfl) ?_
  refine XS.go (s_iloadn rfl rfl rfl) ?_
  refine r_if_ne (tgt := 40) rfl rfl (fun qc9 => ?_) (fun qc9 => ?_)
  · replace hf := xi_pos hf qc9
    refine XS.go (s_iloadn rfl rfl rfl) ?_
    refine XS.go (s_iconst (v := 2) rfl rfl) ?_
    refine r_icmp_ne (tgt := 80) rfl rfl (fun qc10 => ?_) (fun qc10 => ?_)
    · replace hf := xi_pos hf qc10
      refine XS.go (s_iloadn rfl rfl rfl) ?_
      refine XS.go (s_iconst (v := 4) rfl rfl) ?_
      refine r_icmp_ne (tgt := 180) rfl rfl (fun qc11 => ?_) (fun qc11 => ?_)
      · replace hf := xi_pos hf qc11
        refine XS.go (s_iloadn rfl rfl rfl) ?_
        refine XS.go (s_iconst (v := 1) rfl rfl) ?_
        refine r_icmp_ne (tgt := 215) rfl rfl (fun qc12 => ?_) (fun qc12 => ?_)
        · replace hf := xi_pos hf qc12
          refine XS.go (s_iconst (v := 0) rfl rfl) ?_
          cases hf
          exact XR.retz rfl rfl (by decide) (fun hret => ⟨_, hret, ⟨rfl, rfl⟩, L0⟩)
        · replace hf := xi_neg hf qc12
          refine XS.go (s_aloadn rfl rfl rfl) ?_
          refine XS.go (s_aloadn rfl rfl rfl) ?_
          refine XS.go (s_getr rfl xf12_116 (LY.lt L0 (by decide)) (LY.k1262 L0) (by decide) rfl (LY.r1262_54 L0)) ?_
          refine XS.go (s_iconst (v := 0) rfl rfl) ?_
          refine XS.go (s_lalde rfl (LY.lt L0 (by decide)) (LY.k1298 L0) (inN (k := 0) (LY.n1298 L0) rfl (by decide) (by decide)) rfl) ?_
          refine XS.go (s_iloadn rfl rfl rfl) ?_
          refine XS.go (s_aloadn rfl rfl rfl) ?_
          refine XS.go (s_getr rfl xf12_85 (LY.lt L0 (by decide)) (LY.k1262 L0) (by decide) rfl (LY.r1262_37 L0)) ?_
          refine XS.go (s_iloadn rfl rfl rfl) ?_
          refine XS.go (s_ialde rfl (LY.lt L0 (by decide)) (LY.k1288 L0) (inLit (LY.n1288 L0) qk8.1 qk8.2 (by decide)) rfl) ?_
          refine XS.go (s_aloadn rfl rfl rfl) ?_
          refine XS.go (s_getr rfl xf12_82 (LY.lt L0 (by decide)) (LY.k1262 L0) (by decide) rfl (LY.r1262_36 L0)) ?_
          refine XS.go (s_iloadn rfl rfl rfl) ?_
          refine XS.go (s_ialde rfl (LY.lt L0 (by decide)) (LY.k1287 L0) (inLit (LY.n1287 L0) qk8.1 qk8.2 (by decide)) rfl) ?_
          replace hf := xb_some hf
          obtain ⟨r13, e14, hf⟩ := hf
          refine r_callv rfl xvX12_isThing xm12_416 (kf_m_isThing (d := d) L0 e14) (LY.lt L0 (by decide)) (LY.k1262 L0) (by decide) rfl rfl (dl0 (by decide)) (by decide) (Nat.le_of_ble_eq_true rfl) ?_
          rintro _ _ ⟨⟨rfl, rfl⟩, L15⟩
          refine r_if_eq (tgt := 215) rfl rfl (fun qc16 => ?_) (fun qc16 => ?_)
          · replace hf := xi_pos hf qc16
            refine XS.go (s_iconst (v := 0) rfl rfl) ?_
            cases hf
            exact XR.retz rfl rfl (by decide) (fun hret => ⟨_, hret, ⟨rfl, rfl⟩, L15⟩)
          · replace hf := xi_neg hf qc16
            refine XS.go (s_iconst (v := 1) rfl rfl) ?_
            refine XS.go (s_goto (tgt := 216) rfl rfl) ?_
            cases hf
            exact XR.retz rfl rfl (by decide) (fun hret => ⟨_, hret, ⟨rfl, rfl⟩, L15⟩)
      · replace hf := xi_neg hf qc11
        refine XS.go (s_iloadn rfl rfl rfl) ?_
        refine XS.go (s_iconst (v := 2) rfl rfl) ?_
        refine r_icmp_ne (tgt := 127) rfl rfl (fun qc17 => ?_) (fun qc17 => ?_)
        · replace hf := xi_pos hf qc17
          exact XR.forget (L2 := [some (.ref 1262), some (.int a0), none, none, none]) ⟨rfl, ⟨rfl, trivial⟩⟩ (kb_m_fits_127 L0 hf)
        · replace hf := xi_neg hf qc17
          refine XS.go (s_aloadn rfl rfl rfl) ?_
          refine XS.go (s_getr rfl xf12_116 (LY.lt L0 (by decide)) (LY.k1262 L0) (by decide) rfl (LY.r1262_54 L0)) ?_
          refine XS.go (s_iconst (v := 0) rfl rfl) ?_
          refine XS.go (s_lalde rfl (LY.lt L0 (by decide)) (LY.k1298 L0) (inN (k := 0) (LY.n1298 L0) rfl (by decide) (by decide)) rfl) ?_
          refine XS.go (s_lconst (v := 1) rfl rfl) ?_
          refine XS.go (s_lcmp rfl) ?_
          refine r_if_lt (tgt := 127) rfl rfl (fun qc18 => ?_) (fun qc18 => ?_)
          · replace hf := xi_pos hf qc18
            exact XR.forget (L2 := [some (.ref 1262), some (.int a0), none, none, none]) ⟨rfl, ⟨rfl, trivial⟩⟩ (kb_m_fits_127 L0 hf)
          · replace hf := xi_neg hf qc18
            refine XS.go (s_aloadn rfl rfl rfl) ?_
            refine XS.go (s_getr rfl xf12_116 (LY.lt L0 (by decide)) (LY.k1262 L0) (by decide) rfl (LY.r1262_54 L0)) ?_
            refine XS.go (s_iconst (v := 0) rfl rfl) ?_
            refine XS.go (s_lalde rfl (LY.lt L0 (by decide)) (LY.k1298 L0) (inN (k := 0) (LY.n1298 L0) rfl (by decide) (by decide)) rfl) ?_
            refine XS.go (s_aloadn rfl rfl rfl) ?_
            refine XS.go (s_getr rfl xf12_98 (LY.lt L0 (by decide)) (LY.k1262 L0) (by decide) rfl (LY.r1262_42 L0)) ?_
            refine XS.go (s_aloadn rfl rfl rfl) ?_
            refine XS.go (s_getr rfl xf12_82 (LY.lt L0 (by decide)) (LY.k1262 L0) (by decide) rfl (LY.r1262_36 L0)) ?_
            refine XS.go (s_iloadn rfl rfl rfl) ?_
            refine XS.go (s_ialde rfl (LY.lt L0 (by decide)) (LY.k1287 L0) (inLit (LY.n1287 L0) qk8.1 qk8.2 (by decide)) rfl) ?_
            replace hf := xi_none hf
            obtain ⟨qk19, hf⟩ := hf
            refine XS.go (s_ialde rfl (LY.lt L0 (by decide)) (LY.k1292 L0) (inLit (LY.n1292 L0) qk19.1 qk19.2 (by decide)) rfl) ?_
            refine XS.go (s_i2l rfl) ?_
            refine XS.go (s_lcmp rfl) ?_
            refine r_if_gt (tgt := 127) rfl rfl (fun qc20 => ?_) (fun qc20 => ?_)
            · replace hf := xi_pos hf qc20
              exact XR.forget (L2 := [some (.ref 1262), some (.int a0), none, none, none]) ⟨rfl, ⟨rfl, trivial⟩⟩ (kb_m_fits_127 L0 hf)
            · replace hf := xi_neg hf qc20
              refine XS.go (s_iconst (v := 1) rfl rfl) ?_
              refine XS.go (s_goto (tgt := 128) rfl rfl) ?_
              exact XR.forget (L2 := [some (.ref 1262), some (.int a0), none, none, none]) ⟨rfl, ⟨rfl, trivial⟩⟩ (kb_m_fits_128 L0 hf)
    · replace hf := xi_neg hf qc10
      refine XS.go (s_iloadn rfl rfl rfl) ?_
      refine XS.go (s_aloadn rfl rfl rfl) ?_
      refine XS.go (s_getr rfl xf12_61 (LY.lt L0 (by decide)) (LY.k1262 L0) (by decide) rfl (LY.r1262_28 L0)) ?_
      refine XS.go (s_aloadn rfl rfl rfl) ?_
      refine XS.go (s_getr rfl xf12_82 (LY.lt L0 (by decide)) (LY.k1262 L0) (by decide) rfl (LY.r1262_36 L0)) ?_
      refine XS.go (s_iloadn rfl rfl rfl) ?_
      refine XS.go (s_ialde rfl (LY.lt L0 (by decide)) (LY.k1287 L0) (inLit (LY.n1287 L0) qk8.1 qk8.2 (by decide)) rfl) ?_
      replace hf := xi_none hf
      obtain ⟨qk21, hf⟩ := hf
      refine XS.go (s_ialde rfl (LY.lt L0 (by decide)) (LY.k1280 L0) (inLit (LY.n1280 L0) qk21.1 qk21.2 (by decide)) rfl) ?_
      refine r_icmp_ne (tgt := 78) rfl rfl (fun qc22 => ?_) (fun qc22 => ?_)
      · replace hf := xi_pos hf qc22
        refine XS.go (s_iconst (v := 0) rfl rfl) ?_
        cases hf
        exact XR.retz rfl rfl (by decide) (fun hret => ⟨_, hret, ⟨rfl, rfl⟩, L0⟩)
      · replace hf := xi_neg hf qc22
        refine XS.go (s_aloadn rfl rfl rfl) ?_
        refine XS.go (s_aloadn rfl rfl rfl) ?_
        refine XS.go (s_getr rfl xf12_82 (LY.lt L0 (by decide)) (LY.k1262 L0) (by decide) rfl (LY.r1262_36 L0)) ?_
        refine XS.go (s_iloadn rfl rfl rfl) ?_
        refine XS.go (s_ialde rfl (LY.lt L0 (by decide)) (LY.k1287 L0) (inLit (LY.n1287 L0) qk8.1 qk8.2 (by decide)) rfl) ?_
        refine XS.go (s_iconst (v := 0) rfl rfl) ?_
        replace hf := xb_some hf
        obtain ⟨r23, e24, hf⟩ := hf
        refine r_callv rfl xvX12_areOfStruct xm12_413 (kf_m_areOfStruct (d := d) L0 e24) (LY.lt L0 (by decide)) (LY.k1262 L0) (by decide) rfl rfl (dl (by decide)) (by decide) (Nat.le_of_ble_eq_true rfl) ?_
        rintro _ _ ⟨⟨rfl, rfl⟩, L25⟩
        refine r_if_eq (tgt := 78) rfl rfl (fun qc26 => ?_) (fun qc26 => ?_)
        · replace hf := xi_pos hf qc26
          refine XS.go (s_iconst (v := 0) rfl rfl) ?_
          cases hf
          exact XR.retz rfl rfl (by decide) (fun hret => ⟨_, hret, ⟨rfl, rfl⟩, L25⟩)
        · replace hf := xi_neg hf qc26
          refine XS.go (s_iconst (v := 1) rfl rfl) ?_
          refine XS.go (s_goto (tgt := 79) rfl rfl) ?_
          cases hf
          exact XR.retz rfl rfl (by decide) (fun hret => ⟨_, hret, ⟨rfl, rfl⟩, L25⟩)
  · replace hf := xi_neg hf qc9
    refine XS.go (s_iloadn rfl rfl rfl) ?_
    refine XS.go (s_iconst (v := 1) rfl rfl) ?_
    refine r_icmp_ne (tgt := 38) rfl rfl (fun qc27 => ?_) (fun qc27 => ?_)
    · replace hf := xi_pos hf qc27
      refine XS.go (s_iconst (v := 0) rfl rfl) ?_
      cases hf
      exact XR.retz rfl rfl (by decide) (fun hret => ⟨_, hret, ⟨rfl, rfl⟩, L0⟩)
    · replace hf := xi_neg hf qc27
      refine XS.go (s_aloadn rfl rfl rfl) ?_
      refine XS.go (s_getr rfl xf12_82 (LY.lt L0 (by decide)) (LY.k1262 L0) (by decide) rfl (LY.r1262_36 L0)) ?_
      refine XS.go (s_iloadn rfl rfl rfl) ?_
      refine XS.go (s_ialde rfl (LY.lt L0 (by decide)) (LY.k1287 L0) (inLit (LY.n1287 L0) qk8.1 qk8.2 (by decide)) rfl) ?_
      refine XS.go (s_aloadn rfl rfl rfl) ?_
      refine XS.go (s_getr rfl xf12_116 (LY.lt L0 (by decide)) (LY.k1262 L0) (by decide) rfl (LY.r1262_54 L0)) ?_
      refine XS.go (s_iconst (v := 0) rfl rfl) ?_
      refine XS.go (s_lalde rfl (LY.lt L0 (by decide)) (LY.k1298 L0) (inN (k := 0) (LY.n1298 L0) rfl (by decide) (by decide)) rfl) ?_
      replace hf := xb_some hf
      obtain ⟨r28, e29, hf⟩ := hf
      refine r_calls rfl xsX12_isValue xm12_334 (kf_m_isValue (d := d) L0 e29) rfl rfl (dl (by decide)) (by decide) (Nat.le_of_ble_eq_true rfl) ?_
      rintro _ _ ⟨⟨rfl, rfl⟩, L30⟩
      refine r_if_eq (tgt := 38) rfl rfl (fun qc31 => ?_) (fun qc31 => ?_)
      · replace hf := xi_pos hf qc31
        refine XS.go (s_iconst (v := 0) rfl rfl) ?_
        cases hf
        exact XR.retz rfl rfl (by decide) (fun hret => ⟨_, hret, ⟨rfl, rfl⟩, L30⟩)
      · replace hf := xi_neg hf qc31
        refine XS.go (s_iconst (v := 1) rfl rfl) ?_
        refine XS.go (s_goto (tgt := 39) rfl rfl) ?_
        cases hf
        exact XR.retz rfl rfl (by decide) (fun hret => ⟨_, hret, ⟨rfl, rfl⟩, L30⟩)
def b_m_set_356 (x8 : Int32) (h : XH) : Option (Int32 × XH) := (if 0 ≤ x8 ∧ x8 < nI 32 then (some (1, (hsi h 1307 (Int32.toNatClampNeg x8) (hi h 1262 57)))) else none)
set_option maxRecDepth 20000 in
theorem kb_m_set_356 {l : Launch} {G : XG} {d : Nat} {x8 : Int32} {h : XH} {r : Int32 × XH} (L0 : LY h) (hf : b_m_set_356 x8 h = some r) : XR l G xEX12_set (d + 4) (356, [some (.ref 1262), none, none, none, none, none, none, none, some (.int x8)], [], h) (fun C => ∃ v, xRet xEX12_set C v ∧ (C.2.2.2 = r.2 ∧ v = some (.int r.1)) ∧ LY r.2) := by
  unfold b_m_set_356 at hf
  refine XS.go (s_aloadn rfl rfl rfl) ?_
  refine XS.go (s_getr rfl xf12_148 (LY.lt L0 (by decide)) (LY.k1262 L0) (by decide) rfl (LY.r1262_70 L0)) ?_
  refine XS.go (s_iload rfl rfl) ?_
  refine XS.go (s_aloadn rfl rfl rfl) ?_
  refine XS.go (s_getie rfl xf12_382 (LY.lt L0 (by decide)) (LY.k1262 L0) (by decide) rfl rfl) ?_
  replace hf := xi_none hf
  obtain ⟨qk1, hf⟩ := hf
  refine XS.go (s_iast rfl (LY.lt L0 (by decide)) (LY.k1307 L0) (inLit (LY.n1307 L0) qk1.1 qk1.2 (by decide))) ?_
  refine XS.go (s_iconst (v := 1) rfl rfl) ?_
  cases hf
  exact XR.retz rfl rfl (by decide) (fun hret => ⟨_, hret, ⟨rfl, rfl⟩, (by simp only [LY_si, LY_sj]; exact L0)⟩)
def b_m_set_326 (x4 : Int32) (x8 : Int32) (h : XH) : Option (Int32 × XH) := (if ¬ x4 = 4 then (b_m_set_356 x8 h) else (if 0 ≤ (x8 + 1) ∧ (x8 + 1) < nI 32 then (Option.bind (f_m_ahead (hj h 1298 (Int32.toNatClampNeg 0)) 1 (hsi h 1307 (Int32.toNatClampNeg (x8 + 1)) (hi h 1262 57))) fun r4 => (b_m_set_356 x8 r4.2)) else none))
set_option maxRecDepth 20000 in
theorem kb_m_set_326 {l : Launch} {G : XG} {d : Nat} {x4 : Int32} {x8 : Int32} {h : XH} {r : Int32 × XH} (L0 : LY h) (hf : b_m_set_326 x4 x8 h = some r) : XR l G xEX12_set (d + 4) (326, [some (.ref 1262), none, none, none, some (.int x4), none, none, none, some (.int x8)], [], h) (fun C => ∃ v, xRet xEX12_set C v ∧ (C.2.2.2 = r.2 ∧ v = some (.int r.1)) ∧ LY r.2) := by
  unfold b_m_set_326 at hf
  refine XS.go (s_iload rfl rfl) ?_
  refine XS.go (s_iconst (v := 4) rfl rfl) ?_
  refine r_icmp_ne (tgt := 356) rfl rfl (fun qc2 => ?_) (fun qc2 => ?_)
  · replace hf := xi_pos hf qc2
    exact XR.forget (L2 := [some (.ref 1262), none, none, none, none, none, none, none, some (.int x8)]) ⟨rfl, ⟨rfl, trivial⟩⟩ (kb_m_set_356 L0 hf)
  · replace hf := xi_neg hf qc2
    refine XS.go (s_aloadn rfl rfl rfl) ?_
    refine XS.go (s_getr rfl xf12_148 (LY.lt L0 (by decide)) (LY.k1262 L0) (by decide) rfl (LY.r1262_70 L0)) ?_
    refine XS.go (s_iload rfl rfl) ?_
    refine XS.go (s_iconst (v := 1) rfl rfl) ?_
    refine XS.go (s_iadd rfl) ?_
    refine XS.go (s_aloadn rfl rfl rfl) ?_
    refine XS.go (s_getie rfl xf12_382 (LY.lt L0 (by decide)) (LY.k1262 L0) (by decide) rfl rfl) ?_
    replace hf := xi_none hf
    obtain ⟨qk3, hf⟩ := hf
    refine XS.go (s_iast rfl (LY.lt L0 (by decide)) (LY.k1307 L0) (inLit (LY.n1307 L0) qk3.1 qk3.2 (by decide))) ?_
    refine XS.go (s_aloadn rfl rfl rfl) ?_
    refine XS.go (s_aloadn rfl rfl rfl) ?_
    refine XS.go (s_getr rfl xf12_116 (LY.lt (by simp only [LY_si, LY_sj]; exact L0) (by decide)) (LY.k1262 (by simp only [LY_si, LY_sj]; exact L0)) (by decide) rfl (LY.r1262_54 (by simp only [LY_si, LY_sj]; exact L0))) ?_
    refine XS.go (s_iconst (v := 0) rfl rfl) ?_
    refine XS.go (s_lalde rfl (LY.lt (by simp only [LY_si, LY_sj]; exact L0) (by decide)) (LY.k1298 (by simp only [LY_si, LY_sj]; exact L0)) (inN (k := 0) (LY.n1298 (by simp only [LY_si, LY_sj]; exact L0)) rfl (by decide) (by decide)) (congrFun hj_hsi _)) ?_
    refine XS.go (s_iconst (v := 1) rfl rfl) ?_
    replace hf := xb_some hf
    obtain ⟨r4, e5, hf⟩ := hf
    refine r_callv rfl xvX12_ahead xm12_396 (kf_m_ahead (d := d) (by simp only [LY_si, LY_sj]; exact L0) e5) (LY.lt (by simp only [LY_si, LY_sj]; exact L0) (by decide)) (LY.k1262 (by simp only [LY_si, LY_sj]; exact L0)) (by decide) rfl rfl (dl0 (by decide)) (by decide) (Nat.le_of_ble_eq_true rfl) ?_
    rintro _ _ ⟨⟨rfl, rfl⟩, L6⟩
    exact XR.forget (L2 := [some (.ref 1262), none, none, none, none, none, none, none, some (.int x8)]) ⟨rfl, ⟨rfl, trivial⟩⟩ (kb_m_set_356 L6 hf)
def b_m_set_321 (x4 : Int32) (x8 : Int32) (y2 : Int32) (h : XH) : Option (Int32 × XH) := (if 0 ≤ y2 ∧ y2 < nI 600 then (Option.bind (f_m_reference (Int64.toInt32 (hj h 1298 (Int32.toNatClampNeg y2))) h) fun r8 => (b_m_set_326 x4 x8 r8.2)) else none)
set_option maxRecDepth 20000 in
theorem kb_m_set_321 {l : Launch} {G : XG} {d : Nat} {x4 : Int32} {x8 : Int32} {y2 : Int32} {h : XH} {r : Int32 × XH} (L0 : LY h) (hf : b_m_set_321 x4 x8 y2 h = some r) : XR l G xEX12_set (d + 4) (321, [some (.ref 1262), none, none, none, some (.int x4), none, none, none, some (.int x8)], [(.int y2), (.ref 1298), (.ref 1262)], h) (fun C => ∃ v, xRet xEX12_set C v ∧ (C.2.2.2 = r.2 ∧ v = some (.int r.1)) ∧ LY r.2) := by
  unfold b_m_set_321 at hf
  replace hf := xi_none hf
  obtain ⟨qk7, hf⟩ := hf
  refine XS.go (s_lalde rfl (LY.lt L0 (by decide)) (LY.k1298 L0) (inLit (LY.n1298 L0) qk7.1 qk7.2 (by decide)) rfl) ?_
  refine XS.go (s_l2i rfl) ?_
  replace hf := xb_some hf
  obtain ⟨r8, e9, hf⟩ := hf
  refine r_callv rfl xvX12_reference xm12_423 (kf_m_reference (d := d) L0 e9) (LY.lt L0 (by decide)) (LY.k1262 L0) (by decide) rfl rfl (dl (by decide)) (by decide) (Nat.le_of_ble_eq_true rfl) ?_
  rintro _ _ ⟨⟨rfl, rfl⟩, L10⟩
  exact XR.forget (L2 := [some (.ref 1262), none, none, none, some (.int x4), none, none, none, some (.int x8)]) ⟨rfl, ⟨rfl, ⟨rfl, trivial⟩⟩⟩ (kb_m_set_326 L10 hf)
def b_m_set_224 (x1 : Int32) (x3 : Int32) (x4 : Int32) (x5 : Int32) (x6 : Int32) (x7 : Int32) (y0 : Int32) (y1 : Int32) (h : XH) : Option (Int32 × XH) := (if (y0 + y1) ≤ 4000 then (if 0 ≤ x1 ∧ x1 < nI 16 then (Option.bind (f_m_aligned x6 (hsi h 1306 (Int32.toNatClampNeg x1) (vp_nar .boolean 1))) fun r13 => (Option.bind (f_m_zeros x7 r13.2) fun r16 => (if 0 ≤ x3 ∧ x3 < nI 256 then (if ¬ x4 = 0 then (if ¬ x4 = 2 then (if ¬ x4 = 4 then (b_m_set_321 x4 (hi r16.2 1289 (Int32.toNatClampNeg x3)) 0 r16.2) else (b_m_set_321 x4 (hi r16.2 1289 (Int32.toNatClampNeg x3)) 1 r16.2)) else (Option.bind (f_m_putStruct (hi r16.2 1287 (Int32.toNatClampNeg x3)) 0 r16.2) fun r23 => (b_m_set_326 x4 (hi r16.2 1289 (Int32.toNatClampNeg x3)) r23.2))) else (Option.bind (f_m_ahead (hj r16.2 1298 (Int32.toNatClampNeg 0)) x5 r16.2) fun r26 => (b_m_set_326 x4 (hi r16.2 1289 (Int32.toNatClampNeg x3)) r26.2))) else none))) else none) else (some (0, (hsi h 1262 0 4))))
set_option maxRecDepth 20000 in
theorem kb_m_set_224 {l : Launch} {G : XG} {d : Nat} {x1 : Int32} {x3 : Int32} {x4 : Int32} {x5 : Int32} {x6 : Int32} {x7 : Int32} {y0 : Int32} {y1 : Int32} {h : XH} {r : Int32 × XH} (L0 : LY h) (hf : b_m_set_224 x1 x3 x4 x5 x6 x7 y0 y1 h = some r) : XR l G xEX12_set (d + 4) (224, [some (.ref 1262), some (.int x1), none, some (.int x3), some (.int x4), some (.int x5), some (.int x6), some (.int x7), none], [(.int y1), (.int y0)], h) (fun C => ∃ v, xRet xEX12_set C v ∧ (C.2.2.2 = r.2 ∧ v = some (.int r.1)) ∧ LY r.2) := by
  unfold b_m_set_224 at hf
  refine XS.go (s_iadd rfl) ?_
  refine XS.go (s_sipush (v := 4000) rfl rfl) ?_
  refine r_icmp_le (tgt := 238) rfl rfl (fun qc11 => ?_) (fun qc11 => ?_)
  · replace hf := xi_pos hf qc11
    refine XS.go (s_aloadn rfl rfl rfl) ?_
    refine XS.go (s_getr rfl xf12_144 (LY.lt L0 (by decide)) (LY.k1262 L0) (by decide) rfl (LY.r1262_69 L0)) ?_
    refine XS.go (s_iloadn rfl rfl rfl) ?_
    refine XS.go (s_iconst (v := 1) rfl rfl) ?_
    replace hf := xi_none hf
    obtain ⟨qk12, hf⟩ := hf
    refine XS.go (s_zast rfl (LY.lt L0 (by decide)) (LY.k1306 L0) (inLit (LY.n1306 L0) qk12.1 qk12.2 (by decide))) ?_
    refine XS.go (s_aloadn rfl rfl rfl) ?_
    refine XS.go (s_iload rfl rfl) ?_
    replace hf := xb_some hf
    obtain ⟨r13, e14, hf⟩ := hf
    refine r_callv rfl xvX12_aligned xm12_404 (kf_m_aligned (d := d) (by simp only [LY_si, LY_sj]; exact L0) e14) (LY.lt (by simp only [LY_si, LY_sj]; exact L0) (by decide)) (LY.k1262 (by simp only [LY_si, LY_sj]; exact L0)) (by decide) rfl rfl (dl0 (by decide)) (by decide) (Nat.le_of_ble_eq_true rfl) ?_
    rintro _ _ ⟨⟨rfl, rfl⟩, L15⟩
    refine XS.go (s_aloadn rfl rfl rfl) ?_
    refine XS.go (s_iload rfl rfl) ?_
    replace hf := xb_some hf
    obtain ⟨r16, e17, hf⟩ := hf
    refine r_callv rfl xvX12_zeros xm12_407 (kf_m_zeros (d := d) L15 e17) (LY.lt L15 (by decide)) (LY.k1262 L15) (by decide) rfl rfl (dl0 (by decide)) (by decide) (Nat.le_of_ble_eq_true rfl) ?_
    rintro _ _ ⟨⟨rfl, rfl⟩, L18⟩
    refine XS.go (s_aloadn rfl rfl rfl) ?_
    refine XS.go (s_getr rfl xf12_88 (LY.lt L18 (by decide)) (LY.k1262 L18) (by decide) rfl (LY.r1262_38 L18)) ?_
    refine XS.go (s_iloadn rfl rfl rfl) ?_
    replace hf := xi_none hf
    obtain ⟨qk19, hf⟩ := hf
    refine XS.go (s_ialde rfl (LY.lt L18 (by decide)) (LY.k1289 L18) (inLit (LY.n1289 L18) qk19.1 qk19.2 (by decide)) rfl) ?_
    refine XS.go (XS.lcl (L3 := [some (.ref 1262), some (.int x1), none, some (.int x3), some (.int x4), some (.int x5), some (.int x6), some (.int x7), some (.int (hi r16.2 1289 (Int32.toNatClampNeg x3)))]) (s_istore rfl (Nat.le_of_ble_eq_true rfl)) rfl) ?_
    refine XS.go (s_iload rfl rfl) ?_
    refine r_if_ne (tgt := 285) rfl rfl (fun qc20 => ?_) (fun qc20 => ?_)
    · replace hf := xi_pos hf qc20
      refine XS.go (s_iload rfl rfl) ?_
      refine XS.go (s_iconst (v := 2) rfl rfl) ?_
      refine r_icmp_ne (tgt := 305) rfl rfl (fun qc21 => ?_) (fun qc21 => ?_)
      · replace hf := xi_pos hf qc21
        refine XS.go (s_aloadn rfl rfl rfl) ?_
        refine XS.go (s_aloadn rfl rfl rfl) ?_
        refine XS.go (s_getr rfl xf12_116 (LY.lt L18 (by decide)) (LY.k1262 L18) (by decide) rfl (LY.r1262_54 L18)) ?_
        refine XS.go (s_iload rfl rfl) ?_
        refine XS.go (s_iconst (v := 4) rfl rfl) ?_
        refine r_icmp_ne (tgt := 320) rfl rfl (fun qc22 => ?_) (fun qc22 => ?_)
        · replace hf := xi_pos hf qc22
          refine XS.go (s_iconst (v := 0) rfl rfl) ?_
          exact XR.forget (L2 := [some (.ref 1262), none, none, none, some (.int x4), none, none, none, some (.int (hi r16.2 1289 (Int32.toNatClampNeg x3)))]) ⟨rfl, ⟨rfl, ⟨rfl, trivial⟩⟩⟩ (kb_m_set_321 L18 hf)
        · replace hf := xi_neg hf qc22
          refine XS.go (s_iconst (v := 1) rfl rfl) ?_
          refine XS.go (s_goto (tgt := 321) rfl rfl) ?_
          exact XR.forget (L2 := [some (.ref 1262), none, none, none, some (.int x4), none, none, none, some (.int (hi r16.2 1289 (Int32.toNatClampNeg x3)))]) ⟨rfl, ⟨rfl, ⟨rfl, trivial⟩⟩⟩ (kb_m_set_321 L18 hf)
      · replace hf := xi_neg hf qc21
        refine XS.go (s_aloadn rfl rfl rfl) ?_
        refine XS.go (s_aloadn rfl rfl rfl) ?_
        refine XS.go (s_getr rfl xf12_82 (LY.lt L18 (by decide)) (LY.k1262 L18) (by decide) rfl (LY.r1262_36 L18)) ?_
        refine XS.go (s_iloadn rfl rfl rfl) ?_
        refine XS.go (s_ialde rfl (LY.lt L18 (by decide)) (LY.k1287 L18) (inLit (LY.n1287 L18) qk19.1 qk19.2 (by decide)) rfl) ?_
        refine XS.go (s_iconst (v := 0) rfl rfl) ?_
        replace hf := xb_some hf
        obtain ⟨r23, e24, hf⟩ := hf
        refine r_callv rfl xvX12_putStruct xm12_420 (kf_m_putStruct (d := d) L18 e24) (LY.lt L18 (by decide)) (LY.k1262 L18) (by decide) rfl rfl (dl (by decide)) (by decide) (Nat.le_of_ble_eq_true rfl) ?_
        rintro _ _ ⟨⟨rfl, rfl⟩, L25⟩
        refine XS.go (s_goto (tgt := 326) rfl rfl) ?_
        exact XR.forget (L2 := [some (.ref 1262), none, none, none, some (.int x4), none, none, none, some (.int (hi r16.2 1289 (Int32.toNatClampNeg x3)))]) ⟨rfl, ⟨rfl, ⟨rfl, trivial⟩⟩⟩ (kb_m_set_326 L25 hf)
    · replace hf := xi_neg hf qc20
      refine XS.go (s_aloadn rfl rfl rfl) ?_
      refine XS.go (s_aloadn rfl rfl rfl) ?_
      refine XS.go (s_getr rfl xf12_116 (LY.lt L18 (by decide)) (LY.k1262 L18) (by decide) rfl (LY.r1262_54 L18)) ?_
      refine XS.go (s_iconst (v := 0) rfl rfl) ?_
      refine XS.go (s_lalde rfl (LY.lt L18 (by decide)) (LY.k1298 L18) (inN (k := 0) (LY.n1298 L18) rfl (by decide) (by decide)) rfl) ?_
      refine XS.go (s_iload rfl rfl) ?_
      replace hf := xb_some hf
      obtain ⟨r26, e27, hf⟩ := hf
      refine r_callv rfl xvX12_ahead xm12_396 (kf_m_ahead (d := d) L18 e27) (LY.lt L18 (by decide)) (LY.k1262 L18) (by decide) rfl rfl (dl0 (by decide)) (by decide) (Nat.le_of_ble_eq_true rfl) ?_
      rintro _ _ ⟨⟨rfl, rfl⟩, L28⟩
      refine XS.go (s_goto (tgt := 326) rfl rfl) ?_
      exact XR.forget (L2 := [some (.ref 1262), none, none, none, some (.int x4), none, none, none, some (.int (hi r16.2 1289 (Int32.toNatClampNeg x3)))]) ⟨rfl, ⟨rfl, ⟨rfl, trivial⟩⟩⟩ (kb_m_set_326 L28 hf)
  · replace hf := xi_neg hf qc11
    refine XS.go (s_aloadn rfl rfl rfl) ?_
    refine XS.go (s_iconst (v := 4) rfl rfl) ?_
    refine XS.go (s_puti rfl xf12_175 (LY.lt L0 (by decide)) (LY.k1262 L0) (by decide) rfl (Or.inl rfl)) ?_
    refine XS.go (s_iconst (v := 0) rfl rfl) ?_
    cases hf
    exact XR.retz rfl rfl (by decide) (fun hret => ⟨_, hret, ⟨rfl, rfl⟩, (by simp only [LY_si, LY_sj]; exact L0)⟩)
def b_m_set_187 (x1 : Int32) (x3 : Int32) (x4 : Int32) (x5 : Int32) (y0 : Int32) (h : XH) : Option (Int32 × XH) := (Option.bind (f_m_fill (hi h 1262 57) x5 y0 h) fun r29 => (if ¬ x4 = 4 then (b_m_set_224 x1 x3 x4 x5 y0 r29.1 (((hi r29.2 1262 57) + r29.1) + x5) 0 r29.2) else (b_m_set_224 x1 x3 x4 x5 y0 r29.1 (((hi r29.2 1262 57) + r29.1) + x5) 1 r29.2)))
set_option maxRecDepth 20000 in
theorem kb_m_set_187 {l : Launch} {G : XG} {d : Nat} {x1 : Int32} {x3 : Int32} {x4 : Int32} {x5 : Int32} {y0 : Int32} {h : XH} {r : Int32 × XH} (L0 : LY h) (hf : b_m_set_187 x1 x3 x4 x5 y0 h = some r) : XR l G xEX12_set (d + 4) (187, [some (.ref 1262), some (.int x1), none, some (.int x3), some (.int x4), some (.int x5), none, none, none], [(.int y0)], h) (fun C => ∃ v, xRet xEX12_set C v ∧ (C.2.2.2 = r.2 ∧ v = some (.int r.1)) ∧ LY r.2) := by
  unfold b_m_set_187 at hf
  refine XS.go (XS.lcl (L3 := [some (.ref 1262), some (.int x1), none, some (.int x3), some (.int x4), some (.int x5), some (.int y0), none, none]) (s_istore rfl (Nat.le_of_ble_eq_true rfl)) rfl) ?_
  refine XS.go (s_aloadn rfl rfl rfl) ?_
  refine XS.go (s_aloadn rfl rfl rfl) ?_
  refine XS.go (s_getie rfl xf12_382 (LY.lt L0 (by decide)) (LY.k1262 L0) (by decide) rfl rfl) ?_
  refine XS.go (s_iload rfl rfl) ?_
  refine XS.go (s_iload rfl rfl) ?_
  replace hf := xb_some hf
  obtain ⟨r29, e30, hf⟩ := hf
  refine r_callv rfl xvX12_fill xm12_400 (kf_m_fill (d := d) L0 e30) (LY.lt L0 (by decide)) (LY.k1262 L0) (by decide) rfl rfl (dl0 (by decide)) (by decide) (Nat.le_of_ble_eq_true rfl) ?_
  rintro _ _ ⟨⟨rfl, rfl⟩, L31⟩
  refine XS.go (XS.lcl (L3 := [some (.ref 1262), some (.int x1), none, some (.int x3), some (.int x4), some (.int x5), some (.int y0), some (.int r29.1), none]) (s_istore rfl (Nat.le_of_ble_eq_true rfl)) rfl) ?_
  refine XS.go (s_aloadn rfl rfl rfl) ?_
  refine XS.go (s_getie rfl xf12_382 (LY.lt L31 (by decide)) (LY.k1262 L31) (by decide) rfl rfl) ?_
  refine XS.go (s_iload rfl rfl) ?_
  refine XS.go (s_iadd rfl) ?_
  refine XS.go (s_iload rfl rfl) ?_
  refine XS.go (s_iadd rfl) ?_
  refine XS.go (s_iload rfl rfl) ?_
  refine XS.go (s_iconst (v := 4) rfl rfl) ?_
  refine r_icmp_ne (tgt := 223) rfl rfl (fun qc32 => ?_) (fun qc32 => ?_)
  · replace hf := xi_pos hf qc32
    refine XS.go (s_iconst (v := 0) rfl rfl) ?_
    exact XR.forget (L2 := [some (.ref 1262), some (.int x1), none, some (.int x3), some (.int x4), some (.int x5), some (.int y0), some (.int r29.1), none]) ⟨rfl, ⟨rfl, ⟨rfl, ⟨rfl, ⟨rfl, ⟨rfl, ⟨rfl, trivial⟩⟩⟩⟩⟩⟩⟩ (kb_m_set_224 L31 hf)
  · replace hf := xi_neg hf qc32
    refine XS.go (s_iconst (v := 1) rfl rfl) ?_
    refine XS.go (s_goto (tgt := 224) rfl rfl) ?_
    exact XR.forget (L2 := [some (.ref 1262), some (.int x1), none, some (.int x3), some (.int x4), some (.int x5), some (.int y0), some (.int r29.1), none]) ⟨rfl, ⟨rfl, ⟨rfl, ⟨rfl, ⟨rfl, ⟨rfl, ⟨rfl, trivial⟩⟩⟩⟩⟩⟩⟩ (kb_m_set_224 L31 hf)
def b_m_set_154 (x1 : Int32) (x3 : Int32) (x4 : Int32) (y0 : Int32) (h : XH) : Option (Int32 × XH) := (if ¬ x4 = 0 then (if ¬ x4 = 2 then (b_m_set_187 x1 x3 x4 y0 4 h) else (if 0 ≤ x3 ∧ x3 < nI 256 then (if 0 ≤ (hi h 1287 (Int32.toNatClampNeg x3)) ∧ (hi h 1287 (Int32.toNatClampNeg x3)) < nI 12 then (b_m_set_187 x1 x3 x4 y0 (hi h 1275 (Int32.toNatClampNeg (hi h 1287 (Int32.toNatClampNeg x3)))) h) else none) else none)) else (b_m_set_187 x1 x3 x4 y0 y0 h))
set_option maxRecDepth 20000 in
theorem kb_m_set_154 {l : Launch} {G : XG} {d : Nat} {x1 : Int32} {x3 : Int32} {x4 : Int32} {y0 : Int32} {h : XH} {r : Int32 × XH} (L0 : LY h) (hf : b_m_set_154 x1 x3 x4 y0 h = some r) : XR l G xEX12_set (d + 4) (154, [some (.ref 1262), some (.int x1), none, some (.int x3), some (.int x4), none, none, none, none], [(.int y0)], h) (fun C => ∃ v, xRet xEX12_set C v ∧ (C.2.2.2 = r.2 ∧ v = some (.int r.1)) ∧ LY r.2) := by
  unfold b_m_set_154 at hf
  refine XS.go (XS.lcl (L3 := [some (.ref 1262), some (.int x1), none, some (.int x3), some (.int x4), some (.int y0), none, none, none]) (s_istore rfl (Nat.le_of_ble_eq_true rfl)) rfl) ?_
  refine XS.go (s_iload rfl rfl) ?_
  refine r_if_ne (tgt := 166) rfl rfl (fun qc33 => ?_) (fun qc33 => ?_)
  · replace hf := xi_pos hf qc33
    refine XS.go (s_iload rfl rfl) ?_
    refine XS.go (s_iconst (v := 2) rfl rfl) ?_
    refine r_icmp_ne (tgt := 186) rfl rfl (fun qc34 => ?_) (fun qc34 => ?_)
    · replace hf := xi_pos hf qc34
      refine XS.go (s_iconst (v := 4) rfl rfl) ?_
      exact XR.forget (L2 := [some (.ref 1262), some (.int x1), none, some (.int x3), some (.int x4), some (.int y0), none, none, none]) ⟨rfl, ⟨rfl, ⟨rfl, ⟨rfl, ⟨rfl, trivial⟩⟩⟩⟩⟩ (kb_m_set_187 L0 hf)
    · replace hf := xi_neg hf qc34
      refine XS.go (s_aloadn rfl rfl rfl) ?_
      refine XS.go (s_getr rfl xf12_46 (LY.lt L0 (by decide)) (LY.k1262 L0) (by decide) rfl (LY.r1262_23 L0)) ?_
      refine XS.go (s_aloadn rfl rfl rfl) ?_
      refine XS.go (s_getr rfl xf12_82 (LY.lt L0 (by decide)) (LY.k1262 L0) (by decide) rfl (LY.r1262_36 L0)) ?_
      refine XS.go (s_iloadn rfl rfl rfl) ?_
      replace hf := xi_none hf
      obtain ⟨qk35, hf⟩ := hf
      refine XS.go (s_ialde rfl (LY.lt L0 (by decide)) (LY.k1287 L0) (inLit (LY.n1287 L0) qk35.1 qk35.2 (by decide)) rfl) ?_
      replace hf := xi_none hf
      obtain ⟨qk36, hf⟩ := hf
      refine XS.go (s_ialde rfl (LY.lt L0 (by decide)) (LY.k1275 L0) (inLit (LY.n1275 L0) qk36.1 qk36.2 (by decide)) rfl) ?_
      refine XS.go (s_goto (tgt := 187) rfl rfl) ?_
      exact XR.forget (L2 := [some (.ref 1262), some (.int x1), none, some (.int x3), some (.int x4), some (.int y0), none, none, none]) ⟨rfl, ⟨rfl, ⟨rfl, ⟨rfl, ⟨rfl, trivial⟩⟩⟩⟩⟩ (kb_m_set_187 L0 hf)
  · replace hf := xi_neg hf qc33
    refine XS.go (s_iload rfl rfl) ?_
    refine XS.go (s_goto (tgt := 187) rfl rfl) ?_
    exact XR.forget (L2 := [some (.ref 1262), some (.int x1), none, some (.int x3), some (.int x4), some (.int y0), none, none, none]) ⟨rfl, ⟨rfl, ⟨rfl, ⟨rfl, ⟨rfl, trivial⟩⟩⟩⟩⟩ (kb_m_set_187 L0 hf)
def b_m_set_116 (x1 : Int32) (x3 : Int32) (x4 : Int32) (h : XH) : Option (Int32 × XH) := (if ¬ x4 = 0 then (if ¬ x4 = 2 then (b_m_set_154 x1 x3 x4 4 h) else (if 0 ≤ x3 ∧ x3 < nI 256 then (if 0 ≤ (hi h 1287 (Int32.toNatClampNeg x3)) ∧ (hi h 1287 (Int32.toNatClampNeg x3)) < nI 12 then (b_m_set_154 x1 x3 x4 (hi h 1274 (Int32.toNatClampNeg (hi h 1287 (Int32.toNatClampNeg x3)))) h) else none) else none)) else (if 0 ≤ x3 ∧ x3 < nI 256 then (Option.bind (f_m_bytesOf (hi h 1287 (Int32.toNatClampNeg x3)) h) fun r42 => (b_m_set_154 x1 x3 x4 r42.1 r42.2)) else none))
set_option maxRecDepth 20000 in
theorem kb_m_set_116 {l : Launch} {G : XG} {d : Nat} {x1 : Int32} {x3 : Int32} {x4 : Int32} {h : XH} {r : Int32 × XH} (L0 : LY h) (hf : b_m_set_116 x1 x3 x4 h = some r) : XR l G xEX12_set (d + 4) (116, [some (.ref 1262), some (.int x1), none, some (.int x3), some (.int x4), none, none, none, none], [], h) (fun C => ∃ v, xRet xEX12_set C v ∧ (C.2.2.2 = r.2 ∧ v = some (.int r.1)) ∧ LY r.2) := by
  unfold b_m_set_116 at hf
  refine XS.go (s_iload rfl rfl) ?_
  refine r_if_ne (tgt := 133) rfl rfl (fun qc37 => ?_) (fun qc37 => ?_)
  · replace hf := xi_pos hf qc37
    refine XS.go (s_iload rfl rfl) ?_
    refine XS.go (s_iconst (v := 2) rfl rfl) ?_
    refine r_icmp_ne (tgt := 153) rfl rfl (fun qc38 => ?_) (fun qc38 => ?_)
    · replace hf := xi_pos hf qc38
      refine XS.go (s_iconst (v := 4) rfl rfl) ?_
      exact XR.forget (L2 := [some (.ref 1262), some (.int x1), none, some (.int x3), some (.int x4), none, none, none, none]) ⟨rfl, ⟨rfl, ⟨rfl, ⟨rfl, trivial⟩⟩⟩⟩ (kb_m_set_154 L0 hf)
    · replace hf := xi_neg hf qc38
      refine XS.go (s_aloadn rfl rfl rfl) ?_
      refine XS.go (s_getr rfl xf12_43 (LY.lt L0 (by decide)) (LY.k1262 L0) (by decide) rfl (LY.r1262_22 L0)) ?_
      refine XS.go (s_aloadn rfl rfl rfl) ?_
      refine XS.go (s_getr rfl xf12_82 (LY.lt L0 (by decide)) (LY.k1262 L0) (by decide) rfl (LY.r1262_36 L0)) ?_
      refine XS.go (s_iloadn rfl rfl rfl) ?_
      replace hf := xi_none hf
      obtain ⟨qk39, hf⟩ := hf
      refine XS.go (s_ialde rfl (LY.lt L0 (by decide)) (LY.k1287 L0) (inLit (LY.n1287 L0) qk39.1 qk39.2 (by decide)) rfl) ?_
      replace hf := xi_none hf
      obtain ⟨qk40, hf⟩ := hf
      refine XS.go (s_ialde rfl (LY.lt L0 (by decide)) (LY.k1274 L0) (inLit (LY.n1274 L0) qk40.1 qk40.2 (by decide)) rfl) ?_
      refine XS.go (s_goto (tgt := 154) rfl rfl) ?_
      exact XR.forget (L2 := [some (.ref 1262), some (.int x1), none, some (.int x3), some (.int x4), none, none, none, none]) ⟨rfl, ⟨rfl, ⟨rfl, ⟨rfl, trivial⟩⟩⟩⟩ (kb_m_set_154 L0 hf)
  · replace hf := xi_neg hf qc37
    refine XS.go (s_aloadn rfl rfl rfl) ?_
    refine XS.go (s_getr rfl xf12_82 (LY.lt L0 (by decide)) (LY.k1262 L0) (by decide) rfl (LY.r1262_36 L0)) ?_
    refine XS.go (s_iloadn rfl rfl rfl) ?_
    replace hf := xi_none hf
    obtain ⟨qk41, hf⟩ := hf
    refine XS.go (s_ialde rfl (LY.lt L0 (by decide)) (LY.k1287 L0) (inLit (LY.n1287 L0) qk41.1 qk41.2 (by decide)) rfl) ?_
    replace hf := xb_some hf
    obtain ⟨r42, e43, hf⟩ := hf
    refine r_calls rfl xsX12_bytesOf xm12_315 (kf_m_bytesOf (d := d) L0 e43) rfl rfl (dl0 (by decide)) (by decide) (Nat.le_of_ble_eq_true rfl) ?_
    rintro _ _ ⟨⟨rfl, rfl⟩, L44⟩
    refine XS.go (s_goto (tgt := 154) rfl rfl) ?_
    exact XR.forget (L2 := [some (.ref 1262), some (.int x1), none, some (.int x3), some (.int x4), none, none, none, none]) ⟨rfl, ⟨rfl, ⟨rfl, ⟨rfl, trivial⟩⟩⟩⟩ (kb_m_set_154 L44 hf)
def b_m_set_71 (h : XH) : Option (Int32 × XH) := (some (0, (hsi h 1262 0 3)))
set_option maxRecDepth 20000 in
theorem kb_m_set_71 {l : Launch} {G : XG} {d : Nat} {h : XH} {r : Int32 × XH} (L0 : LY h) (hf : b_m_set_71 h = some r) : XR l G xEX12_set (d + 4) (71, [some (.ref 1262), none, none, none, none, none, none, none, none], [], h) (fun C => ∃ v, xRet xEX12_set C v ∧ (C.2.2.2 = r.2 ∧ v = some (.int r.1)) ∧ LY r.2) := by
  unfold b_m_set_71 at hf
  refine XS.go (s_aloadn rfl rfl rfl) ?_
  refine XS.go (s_iconst (v := 3) rfl rfl) ?_
  refine XS.go (s_puti rfl xf12_175 (LY.lt L0 (by decide)) (LY.k1262 L0) (by decide) rfl (Or.inl rfl)) ?_
  refine XS.go (s_iconst (v := 0) rfl rfl) ?_
  cases hf
  exact XR.retz rfl rfl (by decide) (fun hret => ⟨_, hret, ⟨rfl, rfl⟩, (by simp only [LY_si, LY_sj]; exact L0)⟩)
def f_m_set (a0 : Int32) (h : XH) : Option (Int32 × XH) := (if ¬ (hi h 1262 67) = (-1) then (Option.bind (f_m_fieldOf 0 (hi h 1262 67) a0 (hsi (hsi h 1262 0 0) 1262 55 0)) fun r46 => (if ¬ r46.1 = (-1) then (if 0 ≤ a0 ∧ a0 < nI 16 then (if ¬ (hi r46.2 1306 (Int32.toNatClampNeg a0)) = 0 then (b_m_set_71 r46.2) else (Option.bind (f_m_fits r46.1 (hi h 1262 55) r46.2) fun r52 => (if ¬ r52.1 = 0 then (if 0 ≤ r46.1 ∧ r46.1 < nI 256 then (if ¬ (hi r52.2 1286 (Int32.toNatClampNeg r46.1)) = 0 then (b_m_set_116 a0 r46.1 (hi r52.2 1286 (Int32.toNatClampNeg r46.1)) r52.2) else (if ¬ (lg_cmp (hj r52.2 1298 (Int32.toNatClampNeg 0)) (hj r52.2 1291 (Int32.toNatClampNeg r46.1))) = 0 then (b_m_set_116 a0 r46.1 (hi r52.2 1286 (Int32.toNatClampNeg r46.1)) r52.2) else (if 0 ≤ a0 ∧ a0 < nI 16 then (some (0, (hsi r52.2 1306 (Int32.toNatClampNeg a0) (vp_nar .boolean 1)))) else none))) else none) else (b_m_set_71 r52.2)))) else none) else (some (0, (hsi r46.2 1262 0 2))))) else (some (0, (hsi (hsi (hsi h 1262 0 0) 1262 55 0) 1262 0 1))))
set_option maxRecDepth 20000 in
theorem kf_m_set {l : Launch} {G : XG} {d : Nat} {a0 : Int32} {h : XH} {r : Int32 × XH} (L0 : LY h) (hf : f_m_set a0 h = some r) : XC l G xEX12_set (d + 4) [.ref 1262, .int a0] h (fun v h2 => (h2 = r.2 ∧ v = some (.int r.1)) ∧ LY r.2) := by
  refine XC.virt xvX12_set (Nat.le_of_ble_eq_true rfl) ?_
  unfold f_m_set at hf
  refine XR.norm (L3 := [some (.ref 1262), some (.int a0), none, none, none, none, none, none, none]) rfl ?_
  refine XS.go (s_aloadn rfl rfl rfl) ?_
  refine XS.go (s_iconst (v := 0) rfl rfl) ?_
  refine XS.go (s_puti rfl xf12_175 (LY.lt L0 (by decide)) (LY.k1262 L0) (by decide) rfl (Or.inl rfl)) ?_
  refine XS.go (s_aloadn rfl rfl rfl) ?_
  refine XS.go (s_getie rfl xf12_379 (LY.lt (by simp only [LY_si, LY_sj]; exact L0) (by decide)) (LY.k1262 (by simp only [LY_si, LY_sj]; exact L0)) (by decide) rfl (hi_hsi_nk (by decide))) ?_
  refine XS.go (XS.lcl (L3 := [some (.ref 1262), some (.int a0), some (.int (hi h 1262 55)), none, none, none, none, none, none]) (s_istoren rfl rfl (Nat.le_of_ble_eq_true rfl)) rfl) ?_
  refine XS.go (s_aloadn rfl rfl rfl) ?_
  refine XS.go (s_iconst (v := 0) rfl rfl) ?_
  refine XS.go (s_puti rfl xf12_379 (LY.lt (by simp only [LY_si, LY_sj]; exact L0) (by decide)) (LY.k1262 (by simp only [LY_si, LY_sj]; exact L0)) (by decide) rfl (Or.inl rfl)) ?_
  refine XS.go (s_aloadn rfl rfl rfl) ?_
  refine XS.go (s_getie rfl xf12_140 (LY.lt (by simp only [LY_si, LY_sj]; exact L0) (by decide)) (LY.k1262 (by simp only [LY_si, LY_sj]; exact L0)) (by decide) rfl ((hi_hsi_nk (by decide)).trans (hi_hsi_nk (by decide)))) ?_
  refine XS.go (s_iconst (v := (-1)) rfl rfl) ?_
  refine r_icmp_ne (tgt := 30) rfl rfl (fun qc45 => ?_) (fun qc45 => ?_)
  · replace hf := xi_pos hf qc45
    refine XS.go (s_aloadn rfl rfl rfl) ?_
    refine XS.go (s_iconst (v := 0) rfl rfl) ?_
    refine XS.go (s_aloadn rfl rfl rfl) ?_
    refine XS.go (s_getie rfl xf12_140 (LY.lt (by simp only [LY_si, LY_sj]; exact L0) (by decide)) (LY.k1262 (by simp only [LY_si, LY_sj]; exact L0)) (by decide) rfl ((hi_hsi_nk (by decide)).trans (hi_hsi_nk (by decide)))) ?_
    refine XS.go (s_iloadn rfl rfl rfl) ?_
    replace hf := xb_some hf
    obtain ⟨r46, e47, hf⟩ := hf
    refine r_callv rfl xvX12_fieldOf xm12_375 (kf_m_fieldOf (d := d) (by simp only [LY_si, LY_sj]; exact L0) e47) (LY.lt (by simp only [LY_si, LY_sj]; exact L0) (by decide)) (LY.k1262 (by simp only [LY_si, LY_sj]; exact L0)) (by decide) rfl rfl (dl (by decide)) (by decide) (Nat.le_of_ble_eq_true rfl) ?_
    rintro _ _ ⟨⟨rfl, rfl⟩, L48⟩
    refine XS.go (XS.lcl (L3 := [some (.ref 1262), some (.int a0), some (.int (hi h 1262 55)), some (.int r46.1), none, none, none, none, none]) (s_istoren rfl rfl (Nat.le_of_ble_eq_true rfl)) rfl) ?_
    refine XS.go (s_iloadn rfl rfl rfl) ?_
    refine XS.go (s_iconst (v := (-1)) rfl rfl) ?_
    refine r_icmp_ne (tgt := 53) rfl rfl (fun qc49 => ?_) (fun qc49 => ?_)
    · replace hf := xi_pos hf qc49
      refine XS.go (s_aloadn rfl rfl rfl) ?_
      refine XS.go (s_getr rfl xf12_144 (LY.lt L48 (by decide)) (LY.k1262 L48) (by decide) rfl (LY.r1262_69 L48)) ?_
      refine XS.go (s_iloadn rfl rfl rfl) ?_
      replace hf := xi_none hf
      obtain ⟨qk50, hf⟩ := hf
      refine XS.go (s_zalde rfl (LY.lt L48 (by decide)) (LY.k1306 L48) (inLit (LY.n1306 L48) qk50.1 qk50.2 (by decide)) rfl) ?_
      refine r_if_ne (tgt := 71) rfl rfl (fun qc51 => ?_) (fun qc51 => ?_)
      · replace hf := xi_pos hf qc51
        exact XR.forget (L2 := [some (.ref 1262), none, none, none, none, none, none, none, none]) ⟨rfl, trivial⟩ (kb_m_set_71 L48 hf)
      · replace hf := xi_neg hf qc51
        refine XS.go (s_aloadn rfl rfl rfl) ?_
        refine XS.go (s_iloadn rfl rfl rfl) ?_
        refine XS.go (s_iloadn rfl rfl rfl) ?_
        replace hf := xb_some hf
        obtain ⟨r52, e53, hf⟩ := hf
        refine r_callv rfl xvX12_fits xm12_429 (kf_m_fits (d := d) L48 e53) (LY.lt L48 (by decide)) (LY.k1262 L48) (by decide) rfl rfl (dl (by decide)) (by decide) (Nat.le_of_ble_eq_true rfl) ?_
        rintro _ _ ⟨⟨rfl, rfl⟩, L54⟩
        refine r_if_ne (tgt := 78) rfl rfl (fun qc55 => ?_) (fun qc55 => ?_)
        · replace hf := xi_pos hf qc55
          refine XS.go (s_aloadn rfl rfl rfl) ?_
          refine XS.go (s_getr rfl xf12_79 (LY.lt L54 (by decide)) (LY.k1262 L54) (by decide) rfl (LY.r1262_35 L54)) ?_
          refine XS.go (s_iloadn rfl rfl rfl) ?_
          replace hf := xi_none hf
          obtain ⟨qk56, hf⟩ := hf
          refine XS.go (s_ialde rfl (LY.lt L54 (by decide)) (LY.k1286 L54) (inLit (LY.n1286 L54) qk56.1 qk56.2 (by decide)) rfl) ?_
          refine XS.go (XS.lcl (L3 := [some (.ref 1262), some (.int a0), some (.int (hi h 1262 55)), some (.int r46.1), some (.int (hi r52.2 1286 (Int32.toNatClampNeg r46.1))), none, none, none, none]) (s_istore rfl (Nat.le_of_ble_eq_true rfl)) rfl) ?_
          refine XS.go (s_iload rfl rfl) ?_
          refine r_if_ne (tgt := 116) rfl rfl (fun qc57 => ?_) (fun qc57 => ?_)
          · replace hf := xi_pos hf qc57
            exact XR.forget (L2 := [some (.ref 1262), some (.int a0), none, some (.int r46.1), some (.int (hi r52.2 1286 (Int32.toNatClampNeg r46.1))), none, none, none, none]) ⟨rfl, ⟨rfl, ⟨rfl, ⟨rfl, trivial⟩⟩⟩⟩ (kb_m_set_116 L54 hf)
          · replace hf := xi_neg hf qc57
            refine XS.go (s_aloadn rfl rfl rfl) ?_
            refine XS.go (s_getr rfl xf12_116 (LY.lt L54 (by decide)) (LY.k1262 L54) (by decide) rfl (LY.r1262_54 L54)) ?_
            refine XS.go (s_iconst (v := 0) rfl rfl) ?_
            refine XS.go (s_lalde rfl (LY.lt L54 (by decide)) (LY.k1298 L54) (inN (k := 0) (LY.n1298 L54) rfl (by decide) (by decide)) rfl) ?_
            refine XS.go (s_aloadn rfl rfl rfl) ?_
            refine XS.go (s_getr rfl xf12_94 (LY.lt L54 (by decide)) (LY.k1262 L54) (by decide) rfl (LY.r1262_40 L54)) ?_
            refine XS.go (s_iloadn rfl rfl rfl) ?_
            refine XS.go (s_lalde rfl (LY.lt L54 (by decide)) (LY.k1291 L54) (inLit (LY.n1291 L54) qk56.1 qk56.2 (by decide)) rfl) ?_
            refine XS.go (s_lcmp rfl) ?_
            refine r_if_ne (tgt := 116) rfl rfl (fun qc58 => ?_) (fun qc58 => ?_)
            · replace hf := xi_pos hf qc58
              exact XR.forget (L2 := [some (.ref 1262), some (.int a0), none, some (.int r46.1), some (.int (hi r52.2 1286 (Int32.toNatClampNeg r46.1))), none, none, none, none]) ⟨rfl, ⟨rfl, ⟨rfl, ⟨rfl, trivial⟩⟩⟩⟩ (kb_m_set_116 L54 hf)
            · replace hf := xi_neg hf qc58
              refine XS.go (s_aloadn rfl rfl rfl) ?_
              refine XS.go (s_getr rfl xf12_144 (LY.lt L54 (by decide)) (LY.k1262 L54) (by decide) rfl (LY.r1262_69 L54)) ?_
              refine XS.go (s_iloadn rfl rfl rfl) ?_
              refine XS.go (s_iconst (v := 1) rfl rfl) ?_
              replace hf := xi_none hf
              obtain ⟨qk59, hf⟩ := hf
              refine XS.go (s_zast rfl (LY.lt L54 (by decide)) (LY.k1306 L54) (inLit (LY.n1306 L54) qk59.1 qk59.2 (by decide))) ?_
              refine XS.go (s_iconst (v := 0) rfl rfl) ?_
              cases hf
              exact XR.retz rfl rfl (by decide) (fun hret => ⟨_, hret, ⟨rfl, rfl⟩, (by simp only [LY_si, LY_sj]; exact L54)⟩)
        · replace hf := xi_neg hf qc55
          exact XR.forget (L2 := [some (.ref 1262), none, none, none, none, none, none, none, none]) ⟨rfl, trivial⟩ (kb_m_set_71 L54 hf)
    · replace hf := xi_neg hf qc49
      refine XS.go (s_aloadn rfl rfl rfl) ?_
      refine XS.go (s_iconst (v := 2) rfl rfl) ?_
      refine XS.go (s_puti rfl xf12_175 (LY.lt L48 (by decide)) (LY.k1262 L48) (by decide) rfl (Or.inl rfl)) ?_
      refine XS.go (s_iconst (v := 0) rfl rfl) ?_
      cases hf
      exact XR.retz rfl rfl (by decide) (fun hret => ⟨_, hret, ⟨rfl, rfl⟩, (by simp only [LY_si, LY_sj]; exact L48)⟩)
  · replace hf := xi_neg hf qc45
    refine XS.go (s_aloadn rfl rfl rfl) ?_
    refine XS.go (s_iconst (v := 1) rfl rfl) ?_
    refine XS.go (s_puti rfl xf12_175 (LY.lt (by simp only [LY_si, LY_sj]; exact L0) (by decide)) (LY.k1262 (by simp only [LY_si, LY_sj]; exact L0)) (by decide) rfl (Or.inl rfl)) ?_
    refine XS.go (s_iconst (v := 0) rfl rfl) ?_
    cases hf
    exact XR.retz rfl rfl (by decide) (fun hret => ⟨_, hret, ⟨rfl, rfl⟩, (by simp only [LY_si, LY_sj]; exact L0)⟩)
def b_m_lacks_44 (K2 : Int32 → XH → Option (Int32 × XH)) (x1 : Int32) (h : XH) : Option (Int32 × XH) := (K2 (x1 + 1) h)
set_option maxRecDepth 20000 in
theorem kb_m_lacks_44 {l : Launch} {G : XG} {d : Nat} {K2 : Int32 → XH → Option (Int32 × XH)} {x1 : Int32} {h : XH} {r : Int32 × XH} (hK2 : ∀ (x1 : Int32) (h : XH), LY h → K2 x1 h = some r → XR l G xEX12_lacks d (2, [some (.ref 1262), some (.int x1)], [], h) (fun C => ∃ v, xRet xEX12_lacks C v ∧ (C.2.2.2 = r.2 ∧ v = some (.int r.1)) ∧ LY r.2)) (L0 : LY h) (hf : b_m_lacks_44 K2 x1 h = some r) : XR l G xEX12_lacks d (44, [some (.ref 1262), some (.int x1)], [], h) (fun C => ∃ v, xRet xEX12_lacks C v ∧ (C.2.2.2 = r.2 ∧ v = some (.int r.1)) ∧ LY r.2) := by
  unfold b_m_lacks_44 at hf
  refine XS.go (XS.lcl (L3 := [some (.ref 1262), some (.int (x1 + 1))]) (s_inc rfl rfl (Nat.le_of_ble_eq_true rfl)) rfl) ?_
  refine XS.go (s_goto (tgt := 2) rfl rfl) ?_
  exact XR.forget (L2 := [some (.ref 1262), some (.int (x1 + 1))]) ⟨rfl, ⟨rfl, trivial⟩⟩ (hK2 (x1 + 1) _ L0 hf)
def s_m_lacks_2 (K2 : Int32 → XH → Option (Int32 × XH)) (x1 : Int32) (h : XH) : Option (Int32 × XH) := (if 0 ≤ (hi h 1262 67) ∧ (hi h 1262 67) < nI 16 then (if (hi h 1283 (Int32.toNatClampNeg (hi h 1262 67))) ≤ x1 then (some (0, h)) else (if 0 ≤ ((16 * (hi h 1262 67)) + x1) ∧ ((16 * (hi h 1262 67)) + x1) < nI 256 then (if ¬ (hi h 1290 (Int32.toNatClampNeg ((16 * (hi h 1262 67)) + x1))) = 1 then (b_m_lacks_44 K2 x1 h) else (if 0 ≤ x1 ∧ x1 < nI 16 then (if ¬ (hi h 1306 (Int32.toNatClampNeg x1)) = 0 then (b_m_lacks_44 K2 x1 h) else (some (1, h))) else none)) else none)) else none)
set_option maxRecDepth 20000 in
theorem ks_m_lacks_2 {l : Launch} {G : XG} {d : Nat} {K2 : Int32 → XH → Option (Int32 × XH)} {x1 : Int32} {h : XH} {r : Int32 × XH} (hK2 : ∀ (x1 : Int32) (h : XH), LY h → K2 x1 h = some r → XR l G xEX12_lacks d (2, [some (.ref 1262), some (.int x1)], [], h) (fun C => ∃ v, xRet xEX12_lacks C v ∧ (C.2.2.2 = r.2 ∧ v = some (.int r.1)) ∧ LY r.2)) (L0 : LY h) (hf : s_m_lacks_2 K2 x1 h = some r) : XR l G xEX12_lacks d (2, [some (.ref 1262), some (.int x1)], [], h) (fun C => ∃ v, xRet xEX12_lacks C v ∧ (C.2.2.2 = r.2 ∧ v = some (.int r.1)) ∧ LY r.2) := by
  unfold s_m_lacks_2 at hf
  refine XS.go (s_iloadn rfl rfl rfl) ?_
  refine XS.go (s_aloadn rfl rfl rfl) ?_
  refine XS.go (s_getr rfl xf12_70 (LY.lt L0 (by decide)) (LY.k1262 L0) (by decide) rfl (LY.r1262_32 L0)) ?_
  refine XS.go (s_aloadn rfl rfl rfl) ?_
  refine XS.go (s_getie rfl xf12_140 (LY.lt L0 (by decide)) (LY.k1262 L0) (by decide) rfl rfl) ?_
  replace hf := xi_none hf
  obtain ⟨qk1, hf⟩ := hf
  refine XS.go (s_ialde rfl (LY.lt L0 (by decide)) (LY.k1283 L0) (inLit (LY.n1283 L0) qk1.1 qk1.2 (by decide)) rfl) ?_
  refine r_icmp_ge (tgt := 50) rfl rfl (fun qc2 => ?_) (fun qc2 => ?_)
  · replace hf := xi_pos hf qc2
    refine XS.go (s_iconst (v := 0) rfl rfl) ?_
    cases hf
    exact XR.retz rfl rfl (by decide) (fun hret => ⟨_, hret, ⟨rfl, rfl⟩, L0⟩)
  · replace hf := xi_neg hf qc2
    refine XS.go (s_aloadn rfl rfl rfl) ?_
    refine XS.go (s_getr rfl xf12_91 (LY.lt L0 (by decide)) (LY.k1262 L0) (by decide) rfl (LY.r1262_39 L0)) ?_
    refine XS.go (s_bipush (v := 16) rfl rfl) ?_
    refine XS.go (s_aloadn rfl rfl rfl) ?_
    refine XS.go (s_getie rfl xf12_140 (LY.lt L0 (by decide)) (LY.k1262 L0) (by decide) rfl rfl) ?_
    refine XS.go (s_imul rfl) ?_
    refine XS.go (s_iloadn rfl rfl rfl) ?_
    refine XS.go (s_iadd rfl) ?_
    replace hf := xi_none hf
    obtain ⟨qk3, hf⟩ := hf
    refine XS.go (s_ialde rfl (LY.lt L0 (by decide)) (LY.k1290 L0) (inLit (LY.n1290 L0) qk3.1 qk3.2 (by decide)) rfl) ?_
    refine XS.go (s_iconst (v := 1) rfl rfl) ?_
    refine r_icmp_ne (tgt := 44) rfl rfl (fun qc4 => ?_) (fun qc4 => ?_)
    · replace hf := xi_pos hf qc4
      exact XR.forget (L2 := [some (.ref 1262), some (.int x1)]) ⟨rfl, ⟨rfl, trivial⟩⟩ (kb_m_lacks_44 hK2 L0 hf)
    · replace hf := xi_neg hf qc4
      refine XS.go (s_aloadn rfl rfl rfl) ?_
      refine XS.go (s_getr rfl xf12_144 (LY.lt L0 (by decide)) (LY.k1262 L0) (by decide) rfl (LY.r1262_69 L0)) ?_
      refine XS.go (s_iloadn rfl rfl rfl) ?_
      replace hf := xi_none hf
      obtain ⟨qk5, hf⟩ := hf
      refine XS.go (s_zalde rfl (LY.lt L0 (by decide)) (LY.k1306 L0) (inLit (LY.n1306 L0) qk5.1 qk5.2 (by decide)) rfl) ?_
      refine r_if_ne (tgt := 44) rfl rfl (fun qc6 => ?_) (fun qc6 => ?_)
      · replace hf := xi_pos hf qc6
        exact XR.forget (L2 := [some (.ref 1262), some (.int x1)]) ⟨rfl, ⟨rfl, trivial⟩⟩ (kb_m_lacks_44 hK2 L0 hf)
      · replace hf := xi_neg hf qc6
        refine XS.go (s_iconst (v := 1) rfl rfl) ?_
        cases hf
        exact XR.retz rfl rfl (by decide) (fun hret => ⟨_, hret, ⟨rfl, rfl⟩, L0⟩)
def b_m_lacks_2 : Nat → Int32 → XH → Option (Int32 × XH)
  | 0, _, _ => none
  | n + 1, x1, h => s_m_lacks_2 (b_m_lacks_2 n) x1 h
theorem kb_m_lacks_2 {l : Launch} {G : XG} {d : Nat} {n : Nat} {x1 : Int32} {h : XH} {r : Int32 × XH} (L0 : LY h) (hf : b_m_lacks_2 n x1 h = some r) : XR l G xEX12_lacks d (2, [some (.ref 1262), some (.int x1)], [], h) (fun C => ∃ v, xRet xEX12_lacks C v ∧ (C.2.2.2 = r.2 ∧ v = some (.int r.1)) ∧ LY r.2) := by
  induction n generalizing x1 h with
  | zero => cases hf
  | succ n ih => exact ks_m_lacks_2 (fun x1 h L0 hf => ih (h := h) (x1 := x1) L0 hf) L0 hf
def f_m_lacks (h : XH) : Option (Int32 × XH) := (b_m_lacks_2 100000 0 h)
set_option maxRecDepth 20000 in
theorem kf_m_lacks {l : Launch} {G : XG} {d : Nat} {h : XH} {r : Int32 × XH} (L0 : LY h) (hf : f_m_lacks h = some r) : XC l G xEX12_lacks d [.ref 1262] h (fun v h2 => (h2 = r.2 ∧ v = some (.int r.1)) ∧ LY r.2) := by
  refine XC.virt xvX12_lacks (Nat.le_of_ble_eq_true rfl) ?_
  unfold f_m_lacks at hf
  refine XR.norm (L3 := [some (.ref 1262), none]) rfl ?_
  refine XS.go (s_iconst (v := 0) rfl rfl) ?_
  refine XS.go (XS.lcl (L3 := [some (.ref 1262), some (.int 0)]) (s_istoren rfl rfl (Nat.le_of_ble_eq_true rfl)) rfl) ?_
  exact XR.forget (L2 := [some (.ref 1262), some (.int 0)]) ⟨rfl, ⟨rfl, trivial⟩⟩ (kb_m_lacks_2 L0 hf)
def b_m_known_77 (K2 : Int32 → Int32 → XH → Option (Int32 × XH)) (x1 : Int32) (x2 : Int32) (x3 : Int32) (h : XH) : Option (Int32 × XH) := (if x3 = 0 then (K2 x1 (x2 + 1) h) else (if 0 ≤ x2 ∧ x2 < nI 300 then (some ((hi h 1304 (Int32.toNatClampNeg x2)), h)) else none))
set_option maxRecDepth 20000 in
theorem kb_m_known_77 {l : Launch} {G : XG} {d : Nat} {K2 : Int32 → Int32 → XH → Option (Int32 × XH)} {x1 : Int32} {x2 : Int32} {x3 : Int32} {h : XH} {r : Int32 × XH} (hK2 : ∀ (x1 : Int32) (x2 : Int32) (h : XH), LY h → K2 x1 x2 h = some r → XR l G xEX12_known d (2, [some (.ref 1262), some (.int x1), some (.int x2), none, none], [], h) (fun C => ∃ v, xRet xEX12_known C v ∧ (C.2.2.2 = r.2 ∧ v = some (.int r.1)) ∧ LY r.2)) (L0 : LY h) (hf : b_m_known_77 K2 x1 x2 x3 h = some r) : XR l G xEX12_known d (77, [some (.ref 1262), some (.int x1), some (.int x2), some (.int x3), none], [], h) (fun C => ∃ v, xRet xEX12_known C v ∧ (C.2.2.2 = r.2 ∧ v = some (.int r.1)) ∧ LY r.2) := by
  unfold b_m_known_77 at hf
  refine XS.go (s_iloadn rfl rfl rfl) ?_
  refine r_if_eq (tgt := 88) rfl rfl (fun qc1 => ?_) (fun qc1 => ?_)
  · replace hf := xi_pos hf qc1
    refine XS.go (XS.lcl (L3 := [some (.ref 1262), some (.int x1), some (.int (x2 + 1)), some (.int x3), none]) (s_inc rfl rfl (Nat.le_of_ble_eq_true rfl)) rfl) ?_
    refine XS.go (s_goto (tgt := 2) rfl rfl) ?_
    exact XR.forget (L2 := [some (.ref 1262), some (.int x1), some (.int (x2 + 1)), none, none]) ⟨rfl, ⟨rfl, ⟨rfl, trivial⟩⟩⟩ (hK2 x1 (x2 + 1) _ L0 hf)
  · replace hf := xi_neg hf qc1
    refine XS.go (s_aloadn rfl rfl rfl) ?_
    refine XS.go (s_getr rfl xf12_134 (LY.lt L0 (by decide)) (LY.k1262 L0) (by decide) rfl (LY.r1262_65 L0)) ?_
    refine XS.go (s_iloadn rfl rfl rfl) ?_
    replace hf := xi_none hf
    obtain ⟨qk2, hf⟩ := hf
    refine XS.go (s_ialde rfl (LY.lt L0 (by decide)) (LY.k1304 L0) (inLit (LY.n1304 L0) qk2.1 qk2.2 (by decide)) rfl) ?_
    cases hf
    exact XR.reti rfl rfl (fun hret => ⟨_, hret, ⟨rfl, rfl⟩, L0⟩)
def b_m_known_70 (K2 : Int32 → Int32 → XH → Option (Int32 × XH)) (K29 : Int32 → Int32 → Int32 → Int32 → XH → Option (Int32 × XH)) (x1 : Int32) (x2 : Int32) (x4 : Int32) (y0 : Int32) (h : XH) : Option (Int32 × XH) := (K29 x1 x2 y0 (x4 + 1) h)
set_option maxRecDepth 20000 in
theorem kb_m_known_70 {l : Launch} {G : XG} {d : Nat} {K2 : Int32 → Int32 → XH → Option (Int32 × XH)} {K29 : Int32 → Int32 → Int32 → Int32 → XH → Option (Int32 × XH)} {x1 : Int32} {x2 : Int32} {x4 : Int32} {y0 : Int32} {h : XH} {r : Int32 × XH} (hK2 : ∀ (x1 : Int32) (x2 : Int32) (h : XH), LY h → K2 x1 x2 h = some r → XR l G xEX12_known d (2, [some (.ref 1262), some (.int x1), some (.int x2), none, none], [], h) (fun C => ∃ v, xRet xEX12_known C v ∧ (C.2.2.2 = r.2 ∧ v = some (.int r.1)) ∧ LY r.2)) (hK29 : ∀ (x1 : Int32) (x2 : Int32) (x3 : Int32) (x4 : Int32) (h : XH), LY h → K29 x1 x2 x3 x4 h = some r → XR l G xEX12_known d (29, [some (.ref 1262), some (.int x1), some (.int x2), some (.int x3), some (.int x4)], [], h) (fun C => ∃ v, xRet xEX12_known C v ∧ (C.2.2.2 = r.2 ∧ v = some (.int r.1)) ∧ LY r.2)) (L0 : LY h) (hf : b_m_known_70 K2 K29 x1 x2 x4 y0 h = some r) : XR l G xEX12_known d (70, [some (.ref 1262), some (.int x1), some (.int x2), none, some (.int x4)], [(.int y0)], h) (fun C => ∃ v, xRet xEX12_known C v ∧ (C.2.2.2 = r.2 ∧ v = some (.int r.1)) ∧ LY r.2) := by
  unfold b_m_known_70 at hf
  refine XS.go (XS.lcl (L3 := [some (.ref 1262), some (.int x1), some (.int x2), some (.int y0), some (.int x4)]) (s_istoren rfl rfl (Nat.le_of_ble_eq_true rfl)) rfl) ?_
  refine XS.go (XS.lcl (L3 := [some (.ref 1262), some (.int x1), some (.int x2), some (.int y0), some (.int (x4 + 1))]) (s_inc rfl rfl (Nat.le_of_ble_eq_true rfl)) rfl) ?_
  refine XS.go (s_goto (tgt := 29) rfl rfl) ?_
  exact XR.forget (L2 := [some (.ref 1262), some (.int x1), some (.int x2), some (.int y0), some (.int (x4 + 1))]) ⟨rfl, ⟨rfl, ⟨rfl, ⟨rfl, ⟨rfl, trivial⟩⟩⟩⟩⟩ (hK29 x1 x2 y0 (x4 + 1) _ L0 hf)
def s_m_known_29 (K2 : Int32 → Int32 → XH → Option (Int32 × XH)) (K29 : Int32 → Int32 → Int32 → Int32 → XH → Option (Int32 × XH)) (x1 : Int32) (x2 : Int32) (x3 : Int32) (x4 : Int32) (h : XH) : Option (Int32 × XH) := (if x1 ≤ x4 then (b_m_known_77 K2 x1 x2 x3 h) else (if x3 = 0 then (b_m_known_77 K2 x1 x2 x3 h) else (if 0 ≤ x2 ∧ x2 < nI 300 then (if 0 ≤ (((hi h 1304 (Int32.toNatClampNeg x2)) - 1) - x4) ∧ (((hi h 1304 (Int32.toNatClampNeg x2)) - 1) - x4) < nI 4300 then (if 0 ≤ x4 ∧ x4 < nI 68 then (if ¬ (hi h 1299 (Int32.toNatClampNeg (((hi h 1304 (Int32.toNatClampNeg x2)) - 1) - x4))) = (hi h 1309 (Int32.toNatClampNeg x4)) then (b_m_known_70 K2 K29 x1 x2 x4 0 h) else (b_m_known_70 K2 K29 x1 x2 x4 1 h)) else none) else none) else none)))
set_option maxRecDepth 20000 in
theorem ks_m_known_29 {l : Launch} {G : XG} {d : Nat} {K2 : Int32 → Int32 → XH → Option (Int32 × XH)} {K29 : Int32 → Int32 → Int32 → Int32 → XH → Option (Int32 × XH)} {x1 : Int32} {x2 : Int32} {x3 : Int32} {x4 : Int32} {h : XH} {r : Int32 × XH} (hK2 : ∀ (x1 : Int32) (x2 : Int32) (h : XH), LY h → K2 x1 x2 h = some r → XR l G xEX12_known d (2, [some (.ref 1262), some (.int x1), some (.int x2), none, none], [], h) (fun C => ∃ v, xRet xEX12_known C v ∧ (C.2.2.2 = r.2 ∧ v = some (.int r.1)) ∧ LY r.2)) (hK29 : ∀ (x1 : Int32) (x2 : Int32) (x3 : Int32) (x4 : Int32) (h : XH), LY h → K29 x1 x2 x3 x4 h = some r → XR l G xEX12_known d (29, [some (.ref 1262), some (.int x1), some (.int x2), some (.int x3), some (.int x4)], [], h) (fun C => ∃ v, xRet xEX12_known C v ∧ (C.2.2.2 = r.2 ∧ v = some (.int r.1)) ∧ LY r.2)) (L0 : LY h) (hf : s_m_known_29 K2 K29 x1 x2 x3 x4 h = some r) : XR l G xEX12_known d (29, [some (.ref 1262), some (.int x1), some (.int x2), some (.int x3), some (.int x4)], [], h) (fun C => ∃ v, xRet xEX12_known C v ∧ (C.2.2.2 = r.2 ∧ v = some (.int r.1)) ∧ LY r.2) := by
  unfold s_m_known_29 at hf
  refine XS.go (s_iload rfl rfl) ?_
  refine XS.go (s_iloadn rfl rfl rfl) ?_
  refine r_icmp_ge (tgt := 77) rfl rfl (fun qc3 => ?_) (fun qc3 => ?_)
  · replace hf := xi_pos hf qc3
    exact XR.forget (L2 := [some (.ref 1262), some (.int x1), some (.int x2), some (.int x3), none]) ⟨rfl, ⟨rfl, ⟨rfl, ⟨rfl, trivial⟩⟩⟩⟩ (kb_m_known_77 hK2 L0 hf)
  · replace hf := xi_neg hf qc3
    refine XS.go (s_iloadn rfl rfl rfl) ?_
    refine r_if_eq (tgt := 77) rfl rfl (fun qc4 => ?_) (fun qc4 => ?_)
    · replace hf := xi_pos hf qc4
      exact XR.forget (L2 := [some (.ref 1262), some (.int x1), some (.int x2), some (.int x3), none]) ⟨rfl, ⟨rfl, ⟨rfl, ⟨rfl, trivial⟩⟩⟩⟩ (kb_m_known_77 hK2 L0 hf)
    · replace hf := xi_neg hf qc4
      refine XS.go (s_aloadn rfl rfl rfl) ?_
      refine XS.go (s_getr rfl xf12_119 (LY.lt L0 (by decide)) (LY.k1262 L0) (by decide) rfl (LY.r1262_56 L0)) ?_
      refine XS.go (s_aloadn rfl rfl rfl) ?_
      refine XS.go (s_getr rfl xf12_134 (LY.lt L0 (by decide)) (LY.k1262 L0) (by decide) rfl (LY.r1262_65 L0)) ?_
      refine XS.go (s_iloadn rfl rfl rfl) ?_
      replace hf := xi_none hf
      obtain ⟨qk5, hf⟩ := hf
      refine XS.go (s_ialde rfl (LY.lt L0 (by decide)) (LY.k1304 L0) (inLit (LY.n1304 L0) qk5.1 qk5.2 (by decide)) rfl) ?_
      refine XS.go (s_iconst (v := 1) rfl rfl) ?_
      refine XS.go (s_isub rfl) ?_
      refine XS.go (s_iload rfl rfl) ?_
      refine XS.go (s_isub rfl) ?_
      replace hf := xi_none hf
      obtain ⟨qk6, hf⟩ := hf
      refine XS.go (s_ialde rfl (LY.lt L0 (by decide)) (LY.k1299 L0) (inLit (LY.n1299 L0) qk6.1 qk6.2 (by decide)) rfl) ?_
      refine XS.go (s_aloadn rfl rfl rfl) ?_
      refine XS.go (s_getr rfl xf12_154 (LY.lt L0 (by decide)) (LY.k1262 L0) (by decide) rfl (LY.r1262_73 L0)) ?_
      refine XS.go (s_iload rfl rfl) ?_
      replace hf := xi_none hf
      obtain ⟨qk7, hf⟩ := hf
      refine XS.go (s_ialde rfl (LY.lt L0 (by decide)) (LY.k1309 L0) (inLit (LY.n1309 L0) qk7.1 qk7.2 (by decide)) rfl) ?_
      refine r_icmp_ne (tgt := 69) rfl rfl (fun qc8 => ?_) (fun qc8 => ?_)
      · replace hf := xi_pos hf qc8
        refine XS.go (s_iconst (v := 0) rfl rfl) ?_
        exact XR.forget (L2 := [some (.ref 1262), some (.int x1), some (.int x2), none, some (.int x4)]) ⟨rfl, ⟨rfl, ⟨rfl, ⟨rfl, trivial⟩⟩⟩⟩ (kb_m_known_70 hK2 hK29 L0 hf)
      · replace hf := xi_neg hf qc8
        refine XS.go (s_iconst (v := 1) rfl rfl) ?_
        refine XS.go (s_goto (tgt := 70) rfl rfl) ?_
        exact XR.forget (L2 := [some (.ref 1262), some (.int x1), some (.int x2), none, some (.int x4)]) ⟨rfl, ⟨rfl, ⟨rfl, ⟨rfl, trivial⟩⟩⟩⟩ (kb_m_known_70 hK2 hK29 L0 hf)
def b_m_known_29 (K2 : Int32 → Int32 → XH → Option (Int32 × XH)) : Nat → Int32 → Int32 → Int32 → Int32 → XH → Option (Int32 × XH)
  | 0, _, _, _, _, _ => none
  | n + 1, x1, x2, x3, x4, h => s_m_known_29 K2 (b_m_known_29 K2 n) x1 x2 x3 x4 h
theorem kb_m_known_29 {l : Launch} {G : XG} {d : Nat} {K2 : Int32 → Int32 → XH → Option (Int32 × XH)} {n : Nat} {x1 : Int32} {x2 : Int32} {x3 : Int32} {x4 : Int32} {h : XH} {r : Int32 × XH} (hK2 : ∀ (x1 : Int32) (x2 : Int32) (h : XH), LY h → K2 x1 x2 h = some r → XR l G xEX12_known d (2, [some (.ref 1262), some (.int x1), some (.int x2), none, none], [], h) (fun C => ∃ v, xRet xEX12_known C v ∧ (C.2.2.2 = r.2 ∧ v = some (.int r.1)) ∧ LY r.2)) (L0 : LY h) (hf : b_m_known_29 K2 n x1 x2 x3 x4 h = some r) : XR l G xEX12_known d (29, [some (.ref 1262), some (.int x1), some (.int x2), some (.int x3), some (.int x4)], [], h) (fun C => ∃ v, xRet xEX12_known C v ∧ (C.2.2.2 = r.2 ∧ v = some (.int r.1)) ∧ LY r.2) := by
  induction n generalizing x1 x2 x3 x4 h with
  | zero => cases hf
  | succ n ih => exact ks_m_known_29 hK2 (fun x1 x2 x3 x4 h L0 hf => ih (h := h) (x1 := x1) (x2 := x2) (x3 := x3) (x4 := x4) L0 hf) L0 hf
def b_m_known_25 (K2 : Int32 → Int32 → XH → Option (Int32 × XH)) (x1 : Int32) (x2 : Int32) (y0 : Int32) (h : XH) : Option (Int32 × XH) := (b_m_known_29 K2 100000 x1 x2 y0 0 h)
set_option maxRecDepth 20000 in
theorem kb_m_known_25 {l : Launch} {G : XG} {d : Nat} {K2 : Int32 → Int32 → XH → Option (Int32 × XH)} {x1 : Int32} {x2 : Int32} {y0 : Int32} {h : XH} {r : Int32 × XH} (hK2 : ∀ (x1 : Int32) (x2 : Int32) (h : XH), LY h → K2 x1 x2 h = some r → XR l G xEX12_known d (2, [some (.ref 1262), some (.int x1), some (.int x2), none, none], [], h) (fun C => ∃ v, xRet xEX12_known C v ∧ (C.2.2.2 = r.2 ∧ v = some (.int r.1)) ∧ LY r.2)) (L0 : LY h) (hf : b_m_known_25 K2 x1 x2 y0 h = some r) : XR l G xEX12_known d (25, [some (.ref 1262), some (.int x1), some (.int x2), none, none], [(.int y0)], h) (fun C => ∃ v, xRet xEX12_known C v ∧ (C.2.2.2 = r.2 ∧ v = some (.int r.1)) ∧ LY r.2) := by
  unfold b_m_known_25 at hf
  refine XS.go (XS.lcl (L3 := [some (.ref 1262), some (.int x1), some (.int x2), some (.int y0), none]) (s_istoren rfl rfl (Nat.le_of_ble_eq_true rfl)) rfl) ?_
  refine XS.go (s_iconst (v := 0) rfl rfl) ?_
  refine XS.go (XS.lcl (L3 := [some (.ref 1262), some (.int x1), some (.int x2), some (.int y0), some (.int 0)]) (s_istore rfl (Nat.le_of_ble_eq_true rfl)) rfl) ?_
  exact XR.forget (L2 := [some (.ref 1262), some (.int x1), some (.int x2), some (.int y0), some (.int 0)]) ⟨rfl, ⟨rfl, ⟨rfl, ⟨rfl, ⟨rfl, trivial⟩⟩⟩⟩⟩ (kb_m_known_29 hK2 L0 hf)
def s_m_known_2 (K2 : Int32 → Int32 → XH → Option (Int32 × XH)) (x1 : Int32) (x2 : Int32) (h : XH) : Option (Int32 × XH) := (if (hi h 1262 64) ≤ x2 then (some (0, h)) else (if 0 ≤ x2 ∧ x2 < nI 300 then (if ¬ (hi h 1305 (Int32.toNatClampNeg x2)) = x1 then (b_m_known_25 K2 x1 x2 0 h) else (b_m_known_25 K2 x1 x2 1 h)) else none))
set_option maxRecDepth 20000 in
theorem ks_m_known_2 {l : Launch} {G : XG} {d : Nat} {K2 : Int32 → Int32 → XH → Option (Int32 × XH)} {x1 : Int32} {x2 : Int32} {h : XH} {r : Int32 × XH} (hK2 : ∀ (x1 : Int32) (x2 : Int32) (h : XH), LY h → K2 x1 x2 h = some r → XR l G xEX12_known d (2, [some (.ref 1262), some (.int x1), some (.int x2), none, none], [], h) (fun C => ∃ v, xRet xEX12_known C v ∧ (C.2.2.2 = r.2 ∧ v = some (.int r.1)) ∧ LY r.2)) (L0 : LY h) (hf : s_m_known_2 K2 x1 x2 h = some r) : XR l G xEX12_known d (2, [some (.ref 1262), some (.int x1), some (.int x2), none, none], [], h) (fun C => ∃ v, xRet xEX12_known C v ∧ (C.2.2.2 = r.2 ∧ v = some (.int r.1)) ∧ LY r.2) := by
  unfold s_m_known_2 at hf
  refine XS.go (s_iloadn rfl rfl rfl) ?_
  refine XS.go (s_aloadn rfl rfl rfl) ?_
  refine XS.go (s_getie rfl xf12_391 (LY.lt L0 (by decide)) (LY.k1262 L0) (by decide) rfl rfl) ?_
  refine r_icmp_ge (tgt := 94) rfl rfl (fun qc9 => ?_) (fun qc9 => ?_)
  · replace hf := xi_pos hf qc9
    refine XS.go (s_iconst (v := 0) rfl rfl) ?_
    cases hf
    exact XR.reti rfl rfl (fun hret => ⟨_, hret, ⟨rfl, rfl⟩, L0⟩)
  · replace hf := xi_neg hf qc9
    refine XS.go (s_aloadn rfl rfl rfl) ?_
    refine XS.go (s_getr rfl xf12_137 (LY.lt L0 (by decide)) (LY.k1262 L0) (by decide) rfl (LY.r1262_66 L0)) ?_
    refine XS.go (s_iloadn rfl rfl rfl) ?_
    replace hf := xi_none hf
    obtain ⟨qk10, hf⟩ := hf
    refine XS.go (s_ialde rfl (LY.lt L0 (by decide)) (LY.k1305 L0) (inLit (LY.n1305 L0) qk10.1 qk10.2 (by decide)) rfl) ?_
    refine XS.go (s_iloadn rfl rfl rfl) ?_
    refine r_icmp_ne (tgt := 24) rfl rfl (fun qc11 => ?_) (fun qc11 => ?_)
    · replace hf := xi_pos hf qc11
      refine XS.go (s_iconst (v := 0) rfl rfl) ?_
      exact XR.forget (L2 := [some (.ref 1262), some (.int x1), some (.int x2), none, none]) ⟨rfl, ⟨rfl, ⟨rfl, trivial⟩⟩⟩ (kb_m_known_25 hK2 L0 hf)
    · replace hf := xi_neg hf qc11
      refine XS.go (s_iconst (v := 1) rfl rfl) ?_
      refine XS.go (s_goto (tgt := 25) rfl rfl) ?_
      exact XR.forget (L2 := [some (.ref 1262), some (.int x1), some (.int x2), none, none]) ⟨rfl, ⟨rfl, ⟨rfl, trivial⟩⟩⟩ (kb_m_known_25 hK2 L0 hf)
def b_m_known_2 : Nat → Int32 → Int32 → XH → Option (Int32 × XH)
  | 0, _, _, _ => none
  | n + 1, x1, x2, h => s_m_known_2 (b_m_known_2 n) x1 x2 h
theorem kb_m_known_2 {l : Launch} {G : XG} {d : Nat} {n : Nat} {x1 : Int32} {x2 : Int32} {h : XH} {r : Int32 × XH} (L0 : LY h) (hf : b_m_known_2 n x1 x2 h = some r) : XR l G xEX12_known d (2, [some (.ref 1262), some (.int x1), some (.int x2), none, none], [], h) (fun C => ∃ v, xRet xEX12_known C v ∧ (C.2.2.2 = r.2 ∧ v = some (.int r.1)) ∧ LY r.2) := by
  induction n generalizing x1 x2 h with
  | zero => cases hf
  | succ n ih => exact ks_m_known_2 (fun x1 x2 h L0 hf => ih (h := h) (x1 := x1) (x2 := x2) L0 hf) L0 hf
def f_m_known (a0 : Int32) (h : XH) : Option (Int32 × XH) := (b_m_known_2 100000 a0 0 h)
set_option maxRecDepth 20000 in
theorem kf_m_known {l : Launch} {G : XG} {d : Nat} {a0 : Int32} {h : XH} {r : Int32 × XH} (L0 : LY h) (hf : f_m_known a0 h = some r) : XC l G xEX12_known d [.ref 1262, .int a0] h (fun v h2 => (h2 = r.2 ∧ v = some (.int r.1)) ∧ LY r.2) := by
  refine XC.virt xvX12_known (Nat.le_of_ble_eq_true rfl) ?_
  unfold f_m_known at hf
  refine XR.norm (L3 := [some (.ref 1262), some (.int a0), none, none, none]) rfl ?_
  refine XS.go (s_iconst (v := 0) rfl rfl) ?_
  refine XS.go (XS.lcl (L3 := [some (.ref 1262), some (.int a0), some (.int 0), none, none]) (s_istoren rfl rfl (Nat.le_of_ble_eq_true rfl)) rfl) ?_
  exact XR.forget (L2 := [some (.ref 1262), some (.int a0), some (.int 0), none, none]) ⟨rfl, ⟨rfl, ⟨rfl, trivial⟩⟩⟩ (kb_m_known_2 L0 hf)
