/-! Methods as functions of the heap -/
def b_m_judgeUnion_92 (KT : Int32 → Int32 → Int32 → XH → Option (Unit × XH)) (x1 : Int32) (x2 : Int32) (x3 : Int32) (x4 : Int32) (x5 : Int32) (x6 : Int32) (y0 : Int32) (h : XH) : Option (Unit × XH) := (if ¬ x6 = 0 then (if ¬ y0 = 0 then (Option.bind (f_m_stood x1 x2 (x5 + 1) 4 4 h) fun r3 => (if ¬ (hi r3.2 1262 76) = 0 then (some ((), r3.2)) else (if 0 ≤ x3 ∧ x3 < nI 256 then (if 0 ≤ (((8 * (hi r3.2 1287 (Int32.toNatClampNeg x3))) + x6) - 1) ∧ (((8 * (hi r3.2 1287 (Int32.toNatClampNeg x3))) + x6) - 1) < nI 64 then (Option.bind (KT r3.1 (hi r3.2 1294 (Int32.toNatClampNeg (((8 * (hi r3.2 1287 (Int32.toNatClampNeg x3))) + x6) - 1))) (x4 + 1) r3.2) fun r9 => (some ((), r9.2))) else none) else none))) else (Option.bind (f_m_wrong 9 x1 h) fun r12 => (some ((), r12.2)))) else (if y0 = 0 then (if 0 ≤ x3 ∧ x3 < nI 256 then (if ¬ (hi h 1290 (Int32.toNatClampNeg x3)) = 1 then (some ((), h)) else (Option.bind (f_m_wrong 9 x1 h) fun r18 => (some ((), r18.2)))) else none) else (Option.bind (f_m_wrong 12 ((x2 + 6) + (2 * x5)) h) fun r21 => (some ((), r21.2)))))
set_option maxRecDepth 20000 in
theorem kb_m_judgeUnion_92 {l : Launch} {G : XG} {d : Nat} {KT : Int32 → Int32 → Int32 → XH → Option (Unit × XH)} {x1 : Int32} {x2 : Int32} {x3 : Int32} {x4 : Int32} {x5 : Int32} {x6 : Int32} {y0 : Int32} {h : XH} {r : Unit × XH} (hKT : ∀ (a0 : Int32) (a1 : Int32) (a2 : Int32) (h : XH) (r : Unit × XH), LY h → KT a0 a1 a2 h = some r → XC l G xEX12_toTable d [.ref 1262, .int a0, .int a1, .int a2] h (fun v h2 => (h2 = r.2 ∧ v = none) ∧ LY r.2)) (L0 : LY h) (hf : b_m_judgeUnion_92 KT x1 x2 x3 x4 x5 x6 y0 h = some r) : XR l G xEX12_judgeUnion (d + 3) (92, [some (.ref 1262), some (.int x1), some (.int x2), some (.int x3), some (.int x4), some (.int x5), some (.int x6), none, none], [(.int y0)], h) (fun C => ∃ v, xRet xEX12_judgeUnion C v ∧ (C.2.2.2 = r.2 ∧ v = none) ∧ LY r.2) := by
  unfold b_m_judgeUnion_92 at hf
  refine XS.go (XS.lcl (L3 := [some (.ref 1262), some (.int x1), some (.int x2), some (.int x3), some (.int x4), some (.int x5), some (.int x6), some (.int y0), none]) (s_istore rfl (Nat.le_of_ble_eq_true rfl)) rfl) ?_
  refine XS.go (s_iload rfl rfl) ?_
  refine r_if_ne (tgt := 140) rfl rfl (fun qc1 => ?_) (fun qc1 => ?_)
  · replace hf := xi_pos hf qc1
    refine XS.go (s_iload rfl rfl) ?_
    refine r_if_ne (tgt := 153) rfl rfl (fun qc2 => ?_) (fun qc2 => ?_)
    · replace hf := xi_pos hf qc2
      refine XS.go (s_aloadn rfl rfl rfl) ?_
      refine XS.go (s_iloadn rfl rfl rfl) ?_
      refine XS.go (s_iloadn rfl rfl rfl) ?_
      refine XS.go (s_iload rfl rfl) ?_
      refine XS.go (s_iconst (v := 1) rfl rfl) ?_
      refine XS.go (s_iadd rfl) ?_
      refine XS.go (s_iconst (v := 4) rfl rfl) ?_
      refine XS.go (s_iconst (v := 4) rfl rfl) ?_
      replace hf := xb_some hf
      obtain ⟨r3, e4, hf⟩ := hf
      refine r_callv rfl xvX12_stood xm12_487 (kf_m_stood (d := d) L0 e4) (LY.lt L0 (by decide)) (LY.k1262 L0) (by decide) rfl rfl (dl (by decide)) (by decide) (Nat.le_of_ble_eq_true rfl) ?_
      rintro _ _ ⟨⟨rfl, rfl⟩, L5⟩
      refine XS.go (XS.lcl (L3 := [some (.ref 1262), some (.int x1), some (.int x2), some (.int x3), some (.int x4), some (.int x5), some (.int x6), some (.int y0), some (.int r3.1)]) (s_istore rfl (Nat.le_of_ble_eq_true rfl)) rfl) ?_
      refine XS.go (s_aloadn rfl rfl rfl) ?_
      refine XS.go (s_getie rfl xf12_450 (LY.lt L5 (by decide)) (LY.k1262 L5) (by decide) rfl rfl) ?_
      refine r_if_ne (tgt := 203) rfl rfl (fun qc6 => ?_) (fun qc6 => ?_)
      · replace hf := xi_pos hf qc6
        cases hf
        exact XR.retv rfl rfl (fun hret => ⟨_, hret, ⟨rfl, rfl⟩, L5⟩)
      · replace hf := xi_neg hf qc6
        refine XS.go (s_aloadn rfl rfl rfl) ?_
        refine XS.go (s_iload rfl rfl) ?_
        refine XS.go (s_aloadn rfl rfl rfl) ?_
        refine XS.go (s_getr rfl xf12_104 (LY.lt L5 (by decide)) (LY.k1262 L5) (by decide) rfl (LY.r1262_44 L5)) ?_
        refine XS.go (s_bipush (v := 8) rfl rfl) ?_
        refine XS.go (s_aloadn rfl rfl rfl) ?_
        refine XS.go (s_getr rfl xf12_82 (LY.lt L5 (by decide)) (LY.k1262 L5) (by decide) rfl (LY.r1262_36 L5)) ?_
        refine XS.go (s_iloadn rfl rfl rfl) ?_
        replace hf := xi_none hf
        obtain ⟨qk7, hf⟩ := hf
        refine XS.go (s_ialde rfl (LY.lt L5 (by decide)) (LY.k1287 L5) (inLit (LY.n1287 L5) qk7.1 qk7.2 (by decide)) rfl) ?_
        refine XS.go (s_imul rfl) ?_
        refine XS.go (s_iload rfl rfl) ?_
        refine XS.go (s_iadd rfl) ?_
        refine XS.go (s_iconst (v := 1) rfl rfl) ?_
        refine XS.go (s_isub rfl) ?_
        replace hf := xi_none hf
        obtain ⟨qk8, hf⟩ := hf
        refine XS.go (s_ialde rfl (LY.lt L5 (by decide)) (LY.k1294 L5) (inLit (LY.n1294 L5) qk8.1 qk8.2 (by decide)) rfl) ?_
        refine XS.go (s_iload rfl rfl) ?_
        refine XS.go (s_iconst (v := 1) rfl rfl) ?_
        refine XS.go (s_iadd rfl) ?_
        replace hf := xb_some hf
        obtain ⟨r9, e10, hf⟩ := hf
        refine r_callv rfl xvX12_toTable xm12_464 (hKT r3.1 (hi r3.2 1294 (Int32.toNatClampNeg (((8 * (hi r3.2 1287 (Int32.toNatClampNeg x3))) + x6) - 1))) (x4 + 1) r3.2 r9 L5 e10) (LY.lt L5 (by decide)) (LY.k1262 L5) (by decide) rfl rfl (dl0 (by decide)) (by decide) (Nat.le_of_ble_eq_true rfl) ?_
        rintro _ _ ⟨⟨rfl, rfl⟩, L11⟩
        cases hf
        exact XR.retv rfl rfl (fun hret => ⟨_, hret, ⟨rfl, rfl⟩, L11⟩)
    · replace hf := xi_neg hf qc2
      refine XS.go (s_aloadn rfl rfl rfl) ?_
      refine XS.go (s_bipush (v := 9) rfl rfl) ?_
      refine XS.go (s_iloadn rfl rfl rfl) ?_
      replace hf := xb_some hf
      obtain ⟨r12, e13, hf⟩ := hf
      refine r_callv rfl xvX12_wrong xm12_462 (kf_m_wrong (d := d) L0 e13) (LY.lt L0 (by decide)) (LY.k1262 L0) (by decide) rfl rfl (dl0 (by decide)) (by decide) (Nat.le_of_ble_eq_true rfl) ?_
      rintro _ _ ⟨⟨rfl, rfl⟩, L14⟩
      cases hf
      exact XR.retv rfl rfl (fun hret => ⟨_, hret, ⟨rfl, rfl⟩, L14⟩)
  · replace hf := xi_neg hf qc1
    refine XS.go (s_iload rfl rfl) ?_
    refine r_if_eq (tgt := 122) rfl rfl (fun qc15 => ?_) (fun qc15 => ?_)
    · replace hf := xi_pos hf qc15
      refine XS.go (s_aloadn rfl rfl rfl) ?_
      refine XS.go (s_getr rfl xf12_91 (LY.lt L0 (by decide)) (LY.k1262 L0) (by decide) rfl (LY.r1262_39 L0)) ?_
      refine XS.go (s_iloadn rfl rfl rfl) ?_
      replace hf := xi_none hf
      obtain ⟨qk16, hf⟩ := hf
      refine XS.go (s_ialde rfl (LY.lt L0 (by decide)) (LY.k1290 L0) (inLit (LY.n1290 L0) qk16.1 qk16.2 (by decide)) rfl) ?_
      refine XS.go (s_iconst (v := 1) rfl rfl) ?_
      refine r_icmp_ne (tgt := 139) rfl rfl (fun qc17 => ?_) (fun qc17 => ?_)
      · replace hf := xi_pos hf qc17
        cases hf
        exact XR.retv rfl rfl (fun hret => ⟨_, hret, ⟨rfl, rfl⟩, L0⟩)
      · replace hf := xi_neg hf qc17
        refine XS.go (s_aloadn rfl rfl rfl) ?_
        refine XS.go (s_bipush (v := 9) rfl rfl) ?_
        refine XS.go (s_iloadn rfl rfl rfl) ?_
        replace hf := xb_some hf
        obtain ⟨r18, e19, hf⟩ := hf
        refine r_callv rfl xvX12_wrong xm12_462 (kf_m_wrong (d := d) L0 e19) (LY.lt L0 (by decide)) (LY.k1262 L0) (by decide) rfl rfl (dl0 (by decide)) (by decide) (Nat.le_of_ble_eq_true rfl) ?_
        rintro _ _ ⟨⟨rfl, rfl⟩, L20⟩
        cases hf
        exact XR.retv rfl rfl (fun hret => ⟨_, hret, ⟨rfl, rfl⟩, L20⟩)
    · replace hf := xi_neg hf qc15
      refine XS.go (s_aloadn rfl rfl rfl) ?_
      refine XS.go (s_bipush (v := 12) rfl rfl) ?_
      refine XS.go (s_iloadn rfl rfl rfl) ?_
      refine XS.go (s_bipush (v := 6) rfl rfl) ?_
      refine XS.go (s_iadd rfl) ?_
      refine XS.go (s_iconst (v := 2) rfl rfl) ?_
      refine XS.go (s_iload rfl rfl) ?_
      refine XS.go (s_imul rfl) ?_
      refine XS.go (s_iadd rfl) ?_
      replace hf := xb_some hf
      obtain ⟨r21, e22, hf⟩ := hf
      refine r_callv rfl xvX12_wrong xm12_462 (kf_m_wrong (d := d) L0 e22) (LY.lt L0 (by decide)) (LY.k1262 L0) (by decide) rfl rfl (dl0 (by decide)) (by decide) (Nat.le_of_ble_eq_true rfl) ?_
      rintro _ _ ⟨⟨rfl, rfl⟩, L23⟩
      refine XS.go (s_goto (tgt := 139) rfl rfl) ?_
      cases hf
      exact XR.retv rfl rfl (fun hret => ⟨_, hret, ⟨rfl, rfl⟩, L23⟩)
def b_m_judgeUnion_75 (KT : Int32 → Int32 → Int32 → XH → Option (Unit × XH)) (x1 : Int32) (x2 : Int32) (x3 : Int32) (x4 : Int32) (x5 : Int32) (x6 : Int32) (h : XH) : Option (Unit × XH) := (Option.bind (f_m_far x2 (x5 + 1) h) fun r24 => (if r24.1 = 0 then (b_m_judgeUnion_92 KT x1 x2 x3 x4 x5 x6 0 r24.2) else (b_m_judgeUnion_92 KT x1 x2 x3 x4 x5 x6 1 r24.2)))
set_option maxRecDepth 20000 in
theorem kb_m_judgeUnion_75 {l : Launch} {G : XG} {d : Nat} {KT : Int32 → Int32 → Int32 → XH → Option (Unit × XH)} {x1 : Int32} {x2 : Int32} {x3 : Int32} {x4 : Int32} {x5 : Int32} {x6 : Int32} {h : XH} {r : Unit × XH} (hKT : ∀ (a0 : Int32) (a1 : Int32) (a2 : Int32) (h : XH) (r : Unit × XH), LY h → KT a0 a1 a2 h = some r → XC l G xEX12_toTable d [.ref 1262, .int a0, .int a1, .int a2] h (fun v h2 => (h2 = r.2 ∧ v = none) ∧ LY r.2)) (L0 : LY h) (hf : b_m_judgeUnion_75 KT x1 x2 x3 x4 x5 x6 h = some r) : XR l G xEX12_judgeUnion (d + 3) (75, [some (.ref 1262), some (.int x1), some (.int x2), some (.int x3), some (.int x4), some (.int x5), some (.int x6), none, none], [], h) (fun C => ∃ v, xRet xEX12_judgeUnion C v ∧ (C.2.2.2 = r.2 ∧ v = none) ∧ LY r.2) := by
  unfold b_m_judgeUnion_75 at hf
  refine XS.go (s_aloadn rfl rfl rfl) ?_
  refine XS.go (s_iloadn rfl rfl rfl) ?_
  refine XS.go (s_iload rfl rfl) ?_
  refine XS.go (s_iconst (v := 1) rfl rfl) ?_
  refine XS.go (s_iadd rfl) ?_
  replace hf := xb_some hf
  obtain ⟨r24, e25, hf⟩ := hf
  refine r_callv rfl xvX12_far xm12_484 (kf_m_far (d := d) L0 e25) (LY.lt L0 (by decide)) (LY.k1262 L0) (by decide) rfl rfl (dl (by decide)) (by decide) (Nat.le_of_ble_eq_true rfl) ?_
  rintro _ _ ⟨⟨rfl, rfl⟩, L26⟩
  refine r_if_eq (tgt := 91) rfl rfl (fun qc27 => ?_) (fun qc27 => ?_)
  · replace hf := xi_pos hf qc27
    refine XS.go (s_iconst (v := 0) rfl rfl) ?_
    exact XR.forget (L2 := [some (.ref 1262), some (.int x1), some (.int x2), some (.int x3), some (.int x4), some (.int x5), some (.int x6), none, none]) ⟨rfl, ⟨rfl, ⟨rfl, ⟨rfl, ⟨rfl, ⟨rfl, ⟨rfl, trivial⟩⟩⟩⟩⟩⟩⟩ (kb_m_judgeUnion_92 hKT L26 hf)
  · replace hf := xi_neg hf qc27
    refine XS.go (s_iconst (v := 1) rfl rfl) ?_
    refine XS.go (s_goto (tgt := 92) rfl rfl) ?_
    exact XR.forget (L2 := [some (.ref 1262), some (.int x1), some (.int x2), some (.int x3), some (.int x4), some (.int x5), some (.int x6), none, none]) ⟨rfl, ⟨rfl, ⟨rfl, ⟨rfl, ⟨rfl, ⟨rfl, ⟨rfl, trivial⟩⟩⟩⟩⟩⟩⟩ (kb_m_judgeUnion_92 hKT L26 hf)
def f_m_judgeUnion (KT : Int32 → Int32 → Int32 → XH → Option (Unit × XH)) (a0 : Int32) (a1 : Int32) (a2 : Int32) (a3 : Int32) (h : XH) : Option (Unit × XH) := (if 0 ≤ a2 ∧ a2 < nI 256 then (Option.bind (f_m_far a1 (hi h 1289 (Int32.toNatClampNeg a2)) h) fun r29 => (if r29.1 = 0 then (b_m_judgeUnion_75 KT a0 a1 a2 a3 (hi h 1289 (Int32.toNatClampNeg a2)) 0 r29.2) else (Option.bind (f_m_stood a0 a1 (hi h 1289 (Int32.toNatClampNeg a2)) 1 1 r29.2) fun r33 => (if (hi r33.2 1262 76) = 0 then (if 0 ≤ r33.1 ∧ r33.1 < nI 4000 then (if 0 ≤ a2 ∧ a2 < nI 256 then (if 0 ≤ (hi r33.2 1287 (Int32.toNatClampNeg a2)) ∧ (hi r33.2 1287 (Int32.toNatClampNeg a2)) < nI 8 then (if (hi r33.2 1310 (Int32.toNatClampNeg r33.1)) ≤ (hi r33.2 1292 (Int32.toNatClampNeg (hi r33.2 1287 (Int32.toNatClampNeg a2)))) then (b_m_judgeUnion_75 KT a0 a1 a2 a3 (hi h 1289 (Int32.toNatClampNeg a2)) (hi r33.2 1310 (Int32.toNatClampNeg r33.1)) r33.2) else (Option.bind (f_m_wrong 12 r33.1 r33.2) fun r41 => (some ((), r41.2)))) else none) else none) else none) else (some ((), r33.2)))))) else none)
set_option maxRecDepth 20000 in
theorem kf_m_judgeUnion {l : Launch} {G : XG} {d : Nat} {KT : Int32 → Int32 → Int32 → XH → Option (Unit × XH)} {a0 : Int32} {a1 : Int32} {a2 : Int32} {a3 : Int32} {h : XH} {r : Unit × XH} (hKT : ∀ (a0 : Int32) (a1 : Int32) (a2 : Int32) (h : XH) (r : Unit × XH), LY h → KT a0 a1 a2 h = some r → XC l G xEX12_toTable d [.ref 1262, .int a0, .int a1, .int a2] h (fun v h2 => (h2 = r.2 ∧ v = none) ∧ LY r.2)) (L0 : LY h) (hf : f_m_judgeUnion KT a0 a1 a2 a3 h = some r) : XC l G xEX12_judgeUnion (d + 3) [.ref 1262, .int a0, .int a1, .int a2, .int a3] h (fun v h2 => (h2 = r.2 ∧ v = none) ∧ LY r.2) := by
  refine XC.virt xvX12_judgeUnion (Nat.le_of_ble_eq_true rfl) ?_
  unfold f_m_judgeUnion at hf
  refine XR.norm (L3 := [some (.ref 1262), some (.int a0), some (.int a1), some (.int a2), some (.int a3), none, none, none, none]) rfl ?_
  refine XS.go (s_aloadn rfl rfl rfl) ?_
  refine XS.go (s_getr rfl xf12_88 (LY.lt L0 (by decide)) (LY.k1262 L0) (by decide) rfl (LY.r1262_38 L0)) ?_
  refine XS.go (s_iloadn rfl rfl rfl) ?_
  replace hf := xi_none hf
  obtain ⟨qk28, hf⟩ := hf
  refine XS.go (s_ialde rfl (LY.lt L0 (by decide)) (LY.k1289 L0) (inLit (LY.n1289 L0) qk28.1 qk28.2 (by decide)) rfl) ?_
  refine XS.go (XS.lcl (L3 := [some (.ref 1262), some (.int a0), some (.int a1), some (.int a2), some (.int a3), some (.int (hi h 1289 (Int32.toNatClampNeg a2))), none, none, none]) (s_istore rfl (Nat.le_of_ble_eq_true rfl)) rfl) ?_
  refine XS.go (s_iconst (v := 0) rfl rfl) ?_
  refine XS.go (XS.lcl (L3 := [some (.ref 1262), some (.int a0), some (.int a1), some (.int a2), some (.int a3), some (.int (hi h 1289 (Int32.toNatClampNeg a2))), some (.int 0), none, none]) (s_istore rfl (Nat.le_of_ble_eq_true rfl)) rfl) ?_
  refine XS.go (s_aloadn rfl rfl rfl) ?_
  refine XS.go (s_iloadn rfl rfl rfl) ?_
  refine XS.go (s_iload rfl rfl) ?_
  replace hf := xb_some hf
  obtain ⟨r29, e30, hf⟩ := hf
  refine r_callv rfl xvX12_far xm12_484 (kf_m_far (d := d) L0 e30) (LY.lt L0 (by decide)) (LY.k1262 L0) (by decide) rfl rfl (dl (by decide)) (by decide) (Nat.le_of_ble_eq_true rfl) ?_
  rintro _ _ ⟨⟨rfl, rfl⟩, L31⟩
  refine r_if_eq (tgt := 75) rfl rfl (fun qc32 => ?_) (fun qc32 => ?_)
  · replace hf := xi_pos hf qc32
    exact XR.forget (L2 := [some (.ref 1262), some (.int a0), some (.int a1), some (.int a2), some (.int a3), some (.int (hi h 1289 (Int32.toNatClampNeg a2))), some (.int 0), none, none]) ⟨rfl, ⟨rfl, ⟨rfl, ⟨rfl, ⟨rfl, ⟨rfl, ⟨rfl, trivial⟩⟩⟩⟩⟩⟩⟩ (kb_m_judgeUnion_75 hKT L31 hf)
  · replace hf := xi_neg hf qc32
    refine XS.go (s_aloadn rfl rfl rfl) ?_
    refine XS.go (s_iloadn rfl rfl rfl) ?_
    refine XS.go (s_iloadn rfl rfl rfl) ?_
    refine XS.go (s_iload rfl rfl) ?_
    refine XS.go (s_iconst (v := 1) rfl rfl) ?_
    refine XS.go (s_iconst (v := 1) rfl rfl) ?_
    replace hf := xb_some hf
    obtain ⟨r33, e34, hf⟩ := hf
    refine r_callv rfl xvX12_stood xm12_487 (kf_m_stood (d := d) L31 e34) (LY.lt L31 (by decide)) (LY.k1262 L31) (by decide) rfl rfl (dl (by decide)) (by decide) (Nat.le_of_ble_eq_true rfl) ?_
    rintro _ _ ⟨⟨rfl, rfl⟩, L35⟩
    refine XS.go (XS.lcl (L3 := [some (.ref 1262), some (.int a0), some (.int a1), some (.int a2), some (.int a3), some (.int (hi h 1289 (Int32.toNatClampNeg a2))), some (.int 0), some (.int r33.1), none]) (s_istore rfl (Nat.le_of_ble_eq_true rfl)) rfl) ?_
    refine XS.go (s_aloadn rfl rfl rfl) ?_
    refine XS.go (s_getie rfl xf12_450 (LY.lt L35 (by decide)) (LY.k1262 L35) (by decide) rfl rfl) ?_
    refine r_if_eq (tgt := 41) rfl rfl (fun qc36 => ?_) (fun qc36 => ?_)
    · replace hf := xi_pos hf qc36
      refine XS.go (s_aloadn rfl rfl rfl) ?_
      refine XS.go (s_getr rfl xf12_157 (LY.lt L35 (by decide)) (LY.k1262 L35) (by decide) rfl (LY.r1262_74 L35)) ?_
      refine XS.go (s_iload rfl rfl) ?_
      replace hf := xi_none hf
      obtain ⟨qk37, hf⟩ := hf
      refine XS.go (s_ialde rfl (LY.lt L35 (by decide)) (LY.k1310 L35) (inLit (LY.n1310 L35) qk37.1 qk37.2 (by decide)) rfl) ?_
      refine XS.go (XS.lcl (L3 := [some (.ref 1262), some (.int a0), some (.int a1), some (.int a2), some (.int a3), some (.int (hi h 1289 (Int32.toNatClampNeg a2))), some (.int (hi r33.2 1310 (Int32.toNatClampNeg r33.1))), some (.int r33.1), none]) (s_istore rfl (Nat.le_of_ble_eq_true rfl)) rfl) ?_
      refine XS.go (s_iload rfl rfl) ?_
      refine XS.go (s_aloadn rfl rfl rfl) ?_
      refine XS.go (s_getr rfl xf12_98 (LY.lt L35 (by decide)) (LY.k1262 L35) (by decide) rfl (LY.r1262_42 L35)) ?_
      refine XS.go (s_aloadn rfl rfl rfl) ?_
      refine XS.go (s_getr rfl xf12_82 (LY.lt L35 (by decide)) (LY.k1262 L35) (by decide) rfl (LY.r1262_36 L35)) ?_
      refine XS.go (s_iloadn rfl rfl rfl) ?_
      replace hf := xi_none hf
      obtain ⟨qk38, hf⟩ := hf
      refine XS.go (s_ialde rfl (LY.lt L35 (by decide)) (LY.k1287 L35) (inLit (LY.n1287 L35) qk38.1 qk38.2 (by decide)) rfl) ?_
      replace hf := xi_none hf
      obtain ⟨qk39, hf⟩ := hf
      refine XS.go (s_ialde rfl (LY.lt L35 (by decide)) (LY.k1292 L35) (inLit (LY.n1292 L35) qk39.1 qk39.2 (by decide)) rfl) ?_
      refine r_icmp_le (tgt := 75) rfl rfl (fun qc40 => ?_) (fun qc40 => ?_)
      · replace hf := xi_pos hf qc40
        exact XR.forget (L2 := [some (.ref 1262), some (.int a0), some (.int a1), some (.int a2), some (.int a3), some (.int (hi h 1289 (Int32.toNatClampNeg a2))), some (.int (hi r33.2 1310 (Int32.toNatClampNeg r33.1))), none, none]) ⟨rfl, ⟨rfl, ⟨rfl, ⟨rfl, ⟨rfl, ⟨rfl, ⟨rfl, trivial⟩⟩⟩⟩⟩⟩⟩ (kb_m_judgeUnion_75 hKT L35 hf)
      · replace hf := xi_neg hf qc40
        refine XS.go (s_aloadn rfl rfl rfl) ?_
        refine XS.go (s_bipush (v := 12) rfl rfl) ?_
        refine XS.go (s_iload rfl rfl) ?_
        replace hf := xb_some hf
        obtain ⟨r41, e42, hf⟩ := hf
        refine r_callv rfl xvX12_wrong xm12_462 (kf_m_wrong (d := d) L35 e42) (LY.lt L35 (by decide)) (LY.k1262 L35) (by decide) rfl rfl (dl0 (by decide)) (by decide) (Nat.le_of_ble_eq_true rfl) ?_
        rintro _ _ ⟨⟨rfl, rfl⟩, L43⟩
        cases hf
        exact XR.retv rfl rfl (fun hret => ⟨_, hret, ⟨rfl, rfl⟩, L43⟩)
    · replace hf := xi_neg hf qc36
      cases hf
      exact XR.retv rfl rfl (fun hret => ⟨_, hret, ⟨rfl, rfl⟩, L35⟩)
def b_m_toTable_268 (KT : Int32 → Int32 → Int32 → XH → Option (Unit × XH)) (K209 : Int32 → Int32 → Int32 → Int32 → Int32 → XH → Option (Unit × XH)) (x2 : Int32) (x3 : Int32) (x4 : Int32) (x7 : Int32) (x10 : Int32) (h : XH) : Option (Unit × XH) := (K209 x2 x3 x4 x7 (x10 + 1) h)
set_option maxRecDepth 20000 in
theorem kb_m_toTable_268 {l : Launch} {G : XG} {d : Nat} {KT : Int32 → Int32 → Int32 → XH → Option (Unit × XH)} {K209 : Int32 → Int32 → Int32 → Int32 → Int32 → XH → Option (Unit × XH)} {x2 : Int32} {x3 : Int32} {x4 : Int32} {x7 : Int32} {x10 : Int32} {h : XH} {r : Unit × XH} (hKT : ∀ (a0 : Int32) (a1 : Int32) (a2 : Int32) (h : XH) (r : Unit × XH), LY h → KT a0 a1 a2 h = some r → XC l G xEX12_toTable d [.ref 1262, .int a0, .int a1, .int a2] h (fun v h2 => (h2 = r.2 ∧ v = none) ∧ LY r.2)) (hK209 : ∀ (x2 : Int32) (x3 : Int32) (x4 : Int32) (x7 : Int32) (x10 : Int32) (h : XH), LY h → K209 x2 x3 x4 x7 x10 h = some r → XR l G xEX12_toTable (d + 5) (209, [some (.ref 1262), none, some (.int x2), some (.int x3), some (.int x4), none, none, some (.int x7), none, none, some (.int x10)], [], h) (fun C => ∃ v, xRet xEX12_toTable C v ∧ (C.2.2.2 = r.2 ∧ v = none) ∧ LY r.2)) (L0 : LY h) (hf : b_m_toTable_268 KT K209 x2 x3 x4 x7 x10 h = some r) : XR l G xEX12_toTable (d + 5) (268, [some (.ref 1262), none, some (.int x2), some (.int x3), some (.int x4), none, none, some (.int x7), none, none, some (.int x10)], [], h) (fun C => ∃ v, xRet xEX12_toTable C v ∧ (C.2.2.2 = r.2 ∧ v = none) ∧ LY r.2) := by
  unfold b_m_toTable_268 at hf
  refine XS.go (XS.lcl (L3 := [some (.ref 1262), none, some (.int x2), some (.int x3), some (.int x4), none, none, some (.int x7), none, none, some (.int (x10 + 1))]) (s_inc rfl rfl (Nat.le_of_ble_eq_true rfl)) rfl) ?_
  refine XS.go (s_goto (tgt := 209) rfl rfl) ?_
  exact XR.forget (L2 := [some (.ref 1262), none, some (.int x2), some (.int x3), some (.int x4), none, none, some (.int x7), none, none, some (.int (x10 + 1))]) ⟨rfl, ⟨rfl, ⟨rfl, ⟨rfl, ⟨rfl, ⟨rfl, trivial⟩⟩⟩⟩⟩⟩ (hK209 x2 x3 x4 x7 (x10 + 1) _ L0 hf)
def s_m_toTable_209 (KT : Int32 → Int32 → Int32 → XH → Option (Unit × XH)) (K209 : Int32 → Int32 → Int32 → Int32 → Int32 → XH → Option (Unit × XH)) (x2 : Int32) (x3 : Int32) (x4 : Int32) (x7 : Int32) (x10 : Int32) (h : XH) : Option (Unit × XH) := (if 0 ≤ x2 ∧ x2 < nI 16 then (if ((16 * x2) + (hi h 1283 (Int32.toNatClampNeg x2))) ≤ x10 then (some ((), h)) else (if ¬ (hi h 1262 76) = 0 then (some ((), h)) else (if 0 ≤ x10 ∧ x10 < nI 256 then (if ¬ (hi h 1286 (Int32.toNatClampNeg x10)) = 4 then (Option.bind (f_m_judgeField KT x4 x7 x10 x3 h) fun r6 => (b_m_toTable_268 KT K209 x2 x3 x4 x7 x10 r6.2)) else (Option.bind (f_m_judgeUnion KT x4 x7 x10 x3 h) fun r9 => (b_m_toTable_268 KT K209 x2 x3 x4 x7 x10 r9.2))) else none))) else none)
set_option maxRecDepth 20000 in
theorem ks_m_toTable_209 {l : Launch} {G : XG} {d : Nat} {KT : Int32 → Int32 → Int32 → XH → Option (Unit × XH)} {K209 : Int32 → Int32 → Int32 → Int32 → Int32 → XH → Option (Unit × XH)} {x2 : Int32} {x3 : Int32} {x4 : Int32} {x7 : Int32} {x10 : Int32} {h : XH} {r : Unit × XH} (hKT : ∀ (a0 : Int32) (a1 : Int32) (a2 : Int32) (h : XH) (r : Unit × XH), LY h → KT a0 a1 a2 h = some r → XC l G xEX12_toTable d [.ref 1262, .int a0, .int a1, .int a2] h (fun v h2 => (h2 = r.2 ∧ v = none) ∧ LY r.2)) (hK209 : ∀ (x2 : Int32) (x3 : Int32) (x4 : Int32) (x7 : Int32) (x10 : Int32) (h : XH), LY h → K209 x2 x3 x4 x7 x10 h = some r → XR l G xEX12_toTable (d + 5) (209, [some (.ref 1262), none, some (.int x2), some (.int x3), some (.int x4), none, none, some (.int x7), none, none, some (.int x10)], [], h) (fun C => ∃ v, xRet xEX12_toTable C v ∧ (C.2.2.2 = r.2 ∧ v = none) ∧ LY r.2)) (L0 : LY h) (hf : s_m_toTable_209 KT K209 x2 x3 x4 x7 x10 h = some r) : XR l G xEX12_toTable (d + 5) (209, [some (.ref 1262), none, some (.int x2), some (.int x3), some (.int x4), none, none, some (.int x7), none, none, some (.int x10)], [], h) (fun C => ∃ v, xRet xEX12_toTable C v ∧ (C.2.2.2 = r.2 ∧ v = none) ∧ LY r.2) := by
  unfold s_m_toTable_209 at hf
  refine XS.go (s_iload rfl rfl) ?_
  refine XS.go (s_bipush (v := 16) rfl rfl) ?_
  refine XS.go (s_iloadn rfl rfl rfl) ?_
  refine XS.go (s_imul rfl) ?_
  refine XS.go (s_aloadn rfl rfl rfl) ?_
  refine XS.go (s_getr rfl xf12_70 (LY.lt L0 (by decide)) (LY.k1262 L0) (by decide) rfl (LY.r1262_32 L0)) ?_
  refine XS.go (s_iloadn rfl rfl rfl) ?_
  replace hf := xi_none hf
  obtain ⟨qk1, hf⟩ := hf
  refine XS.go (s_ialde rfl (LY.lt L0 (by decide)) (LY.k1283 L0) (inLit (LY.n1283 L0) qk1.1 qk1.2 (by decide)) rfl) ?_
  refine XS.go (s_iadd rfl) ?_
  refine r_icmp_ge (tgt := 274) rfl rfl (fun qc2 => ?_) (fun qc2 => ?_)
  · replace hf := xi_pos hf qc2
    cases hf
    exact XR.retv rfl rfl (fun hret => ⟨_, hret, ⟨rfl, rfl⟩, L0⟩)
  · replace hf := xi_neg hf qc2
    refine XS.go (s_aloadn rfl rfl rfl) ?_
    refine XS.go (s_getie rfl xf12_450 (LY.lt L0 (by decide)) (LY.k1262 L0) (by decide) rfl rfl) ?_
    refine r_if_ne (tgt := 274) rfl rfl (fun qc3 => ?_) (fun qc3 => ?_)
    · replace hf := xi_pos hf qc3
      cases hf
      exact XR.retv rfl rfl (fun hret => ⟨_, hret, ⟨rfl, rfl⟩, L0⟩)
    · replace hf := xi_neg hf qc3
      refine XS.go (s_aloadn rfl rfl rfl) ?_
      refine XS.go (s_getr rfl xf12_79 (LY.lt L0 (by decide)) (LY.k1262 L0) (by decide) rfl (LY.r1262_35 L0)) ?_
      refine XS.go (s_iload rfl rfl) ?_
      replace hf := xi_none hf
      obtain ⟨qk4, hf⟩ := hf
      refine XS.go (s_ialde rfl (LY.lt L0 (by decide)) (LY.k1286 L0) (inLit (LY.n1286 L0) qk4.1 qk4.2 (by decide)) rfl) ?_
      refine XS.go (s_iconst (v := 4) rfl rfl) ?_
      refine r_icmp_ne (tgt := 257) rfl rfl (fun qc5 => ?_) (fun qc5 => ?_)
      · replace hf := xi_pos hf qc5
        refine XS.go (s_aloadn rfl rfl rfl) ?_
        refine XS.go (s_iload rfl rfl) ?_
        refine XS.go (s_iload rfl rfl) ?_
        refine XS.go (s_iload rfl rfl) ?_
        refine XS.go (s_iloadn rfl rfl rfl) ?_
        replace hf := xb_some hf
        obtain ⟨r6, e7, hf⟩ := hf
        refine r_callv rfl xvX12_judgeField xm12_481 (kf_m_judgeField (d := d) hKT L0 e7) (LY.lt L0 (by decide)) (LY.k1262 L0) (by decide) rfl rfl (dl (by decide)) (by decide) (Nat.le_of_ble_eq_true rfl) ?_
        rintro _ _ ⟨⟨rfl, rfl⟩, L8⟩
        exact XR.forget (L2 := [some (.ref 1262), none, some (.int x2), some (.int x3), some (.int x4), none, none, some (.int x7), none, none, some (.int x10)]) ⟨rfl, ⟨rfl, ⟨rfl, ⟨rfl, ⟨rfl, ⟨rfl, trivial⟩⟩⟩⟩⟩⟩ (kb_m_toTable_268 hKT hK209 L8 hf)
      · replace hf := xi_neg hf qc5
        refine XS.go (s_aloadn rfl rfl rfl) ?_
        refine XS.go (s_iload rfl rfl) ?_
        refine XS.go (s_iload rfl rfl) ?_
        refine XS.go (s_iload rfl rfl) ?_
        refine XS.go (s_iloadn rfl rfl rfl) ?_
        replace hf := xb_some hf
        obtain ⟨r9, e10, hf⟩ := hf
        refine r_callv rfl xvX12_judgeUnion xm12_478 (kf_m_judgeUnion (d := d) hKT L0 e10) (LY.lt L0 (by decide)) (LY.k1262 L0) (by decide) rfl rfl (dl (by decide)) (by decide) (Nat.le_of_ble_eq_true rfl) ?_
        rintro _ _ ⟨⟨rfl, rfl⟩, L11⟩
        refine XS.go (s_goto (tgt := 268) rfl rfl) ?_
        exact XR.forget (L2 := [some (.ref 1262), none, some (.int x2), some (.int x3), some (.int x4), none, none, some (.int x7), none, none, some (.int x10)]) ⟨rfl, ⟨rfl, ⟨rfl, ⟨rfl, ⟨rfl, ⟨rfl, trivial⟩⟩⟩⟩⟩⟩ (kb_m_toTable_268 hKT hK209 L11 hf)
def b_m_toTable_209 (KT : Int32 → Int32 → Int32 → XH → Option (Unit × XH)) : Nat → Int32 → Int32 → Int32 → Int32 → Int32 → XH → Option (Unit × XH)
  | 0, _, _, _, _, _, _ => none
  | n + 1, x2, x3, x4, x7, x10, h => s_m_toTable_209 KT (b_m_toTable_209 KT n) x2 x3 x4 x7 x10 h
theorem kb_m_toTable_209 {l : Launch} {G : XG} {d : Nat} {KT : Int32 → Int32 → Int32 → XH → Option (Unit × XH)} {n : Nat} {x2 : Int32} {x3 : Int32} {x4 : Int32} {x7 : Int32} {x10 : Int32} {h : XH} {r : Unit × XH} (hKT : ∀ (a0 : Int32) (a1 : Int32) (a2 : Int32) (h : XH) (r : Unit × XH), LY h → KT a0 a1 a2 h = some r → XC l G xEX12_toTable d [.ref 1262, .int a0, .int a1, .int a2] h (fun v h2 => (h2 = r.2 ∧ v = none) ∧ LY r.2)) (L0 : LY h) (hf : b_m_toTable_209 KT n x2 x3 x4 x7 x10 h = some r) : XR l G xEX12_toTable (d + 5) (209, [some (.ref 1262), none, some (.int x2), some (.int x3), some (.int x4), none, none, some (.int x7), none, none, some (.int x10)], [], h) (fun C => ∃ v, xRet xEX12_toTable C v ∧ (C.2.2.2 = r.2 ∧ v = none) ∧ LY r.2) := by
  induction n generalizing x2 x3 x4 x7 x10 h with
  | zero => cases hf
  | succ n ih => exact ks_m_toTable_209 hKT (fun x2 x3 x4 x7 x10 h L0 hf => ih (h := h) (x2 := x2) (x3 := x3) (x4 := x4) (x7 := x7) (x10 := x10) L0 hf) L0 hf
def b_m_toTable_203 (KT : Int32 → Int32 → Int32 → XH → Option (Unit × XH)) (x2 : Int32) (x3 : Int32) (x4 : Int32) (x7 : Int32) (h : XH) : Option (Unit × XH) := (b_m_toTable_209 KT 100000 x2 x3 x4 x7 (16 * x2) h)
set_option maxRecDepth 20000 in
theorem kb_m_toTable_203 {l : Launch} {G : XG} {d : Nat} {KT : Int32 → Int32 → Int32 → XH → Option (Unit × XH)} {x2 : Int32} {x3 : Int32} {x4 : Int32} {x7 : Int32} {h : XH} {r : Unit × XH} (hKT : ∀ (a0 : Int32) (a1 : Int32) (a2 : Int32) (h : XH) (r : Unit × XH), LY h → KT a0 a1 a2 h = some r → XC l G xEX12_toTable d [.ref 1262, .int a0, .int a1, .int a2] h (fun v h2 => (h2 = r.2 ∧ v = none) ∧ LY r.2)) (L0 : LY h) (hf : b_m_toTable_203 KT x2 x3 x4 x7 h = some r) : XR l G xEX12_toTable (d + 5) (203, [some (.ref 1262), none, some (.int x2), some (.int x3), some (.int x4), none, none, some (.int x7), none, none, none], [], h) (fun C => ∃ v, xRet xEX12_toTable C v ∧ (C.2.2.2 = r.2 ∧ v = none) ∧ LY r.2) := by
  unfold b_m_toTable_203 at hf
  refine XS.go (s_bipush (v := 16) rfl rfl) ?_
  refine XS.go (s_iloadn rfl rfl rfl) ?_
  refine XS.go (s_imul rfl) ?_
  refine XS.go (XS.lcl (L3 := [some (.ref 1262), none, some (.int x2), some (.int x3), some (.int x4), none, none, some (.int x7), none, none, some (.int (16 * x2))]) (s_istore rfl (Nat.le_of_ble_eq_true rfl)) rfl) ?_
  exact XR.forget (L2 := [some (.ref 1262), none, some (.int x2), some (.int x3), some (.int x4), none, none, some (.int x7), none, none, some (.int (16 * x2))]) ⟨rfl, ⟨rfl, ⟨rfl, ⟨rfl, ⟨rfl, ⟨rfl, trivial⟩⟩⟩⟩⟩⟩ (kb_m_toTable_209 hKT L0 hf)
def b_m_toTable_193 (KT : Int32 → Int32 → Int32 → XH → Option (Unit × XH)) (x2 : Int32) (x3 : Int32) (x4 : Int32) (x7 : Int32) (h : XH) : Option (Unit × XH) := (Option.bind (f_m_wrong 8 (x7 + 2) h) fun r12 => (b_m_toTable_203 KT x2 x3 x4 x7 r12.2))
set_option maxRecDepth 20000 in
theorem kb_m_toTable_193 {l : Launch} {G : XG} {d : Nat} {KT : Int32 → Int32 → Int32 → XH → Option (Unit × XH)} {x2 : Int32} {x3 : Int32} {x4 : Int32} {x7 : Int32} {h : XH} {r : Unit × XH} (hKT : ∀ (a0 : Int32) (a1 : Int32) (a2 : Int32) (h : XH) (r : Unit × XH), LY h → KT a0 a1 a2 h = some r → XC l G xEX12_toTable d [.ref 1262, .int a0, .int a1, .int a2] h (fun v h2 => (h2 = r.2 ∧ v = none) ∧ LY r.2)) (L0 : LY h) (hf : b_m_toTable_193 KT x2 x3 x4 x7 h = some r) : XR l G xEX12_toTable (d + 5) (193, [some (.ref 1262), none, some (.int x2), some (.int x3), some (.int x4), none, none, some (.int x7), none, none, none], [], h) (fun C => ∃ v, xRet xEX12_toTable C v ∧ (C.2.2.2 = r.2 ∧ v = none) ∧ LY r.2) := by
  unfold b_m_toTable_193 at hf
  refine XS.go (s_aloadn rfl rfl rfl) ?_
  refine XS.go (s_bipush (v := 8) rfl rfl) ?_
  refine XS.go (s_iload rfl rfl) ?_
  refine XS.go (s_iconst (v := 2) rfl rfl) ?_
  refine XS.go (s_iadd rfl) ?_
  replace hf := xb_some hf
  obtain ⟨r12, e13, hf⟩ := hf
  refine r_callv rfl xvX12_wrong xm12_462 (kf_m_wrong (d := d) L0 e13) (LY.lt L0 (by decide)) (LY.k1262 L0) (by decide) rfl rfl (dl0 (by decide)) (by decide) (Nat.le_of_ble_eq_true rfl) ?_
  rintro _ _ ⟨⟨rfl, rfl⟩, L14⟩
  exact XR.forget (L2 := [some (.ref 1262), none, some (.int x2), some (.int x3), some (.int x4), none, none, some (.int x7), none, none, none]) ⟨rfl, ⟨rfl, ⟨rfl, ⟨rfl, ⟨rfl, trivial⟩⟩⟩⟩⟩ (kb_m_toTable_203 hKT L14 hf)
def b_m_toTable_164 (KT : Int32 → Int32 → Int32 → XH → Option (Unit × XH)) (x2 : Int32) (x3 : Int32) (x4 : Int32) (x7 : Int32) (h : XH) : Option (Unit × XH) := (Option.bind (f_m_wrong 7 x7 h) fun r15 => (b_m_toTable_203 KT x2 x3 x4 x7 r15.2))
set_option maxRecDepth 20000 in
theorem kb_m_toTable_164 {l : Launch} {G : XG} {d : Nat} {KT : Int32 → Int32 → Int32 → XH → Option (Unit × XH)} {x2 : Int32} {x3 : Int32} {x4 : Int32} {x7 : Int32} {h : XH} {r : Unit × XH} (hKT : ∀ (a0 : Int32) (a1 : Int32) (a2 : Int32) (h : XH) (r : Unit × XH), LY h → KT a0 a1 a2 h = some r → XC l G xEX12_toTable d [.ref 1262, .int a0, .int a1, .int a2] h (fun v h2 => (h2 = r.2 ∧ v = none) ∧ LY r.2)) (L0 : LY h) (hf : b_m_toTable_164 KT x2 x3 x4 x7 h = some r) : XR l G xEX12_toTable (d + 5) (164, [some (.ref 1262), none, some (.int x2), some (.int x3), some (.int x4), none, none, some (.int x7), none, none, none], [], h) (fun C => ∃ v, xRet xEX12_toTable C v ∧ (C.2.2.2 = r.2 ∧ v = none) ∧ LY r.2) := by
  unfold b_m_toTable_164 at hf
  refine XS.go (s_aloadn rfl rfl rfl) ?_
  refine XS.go (s_bipush (v := 7) rfl rfl) ?_
  refine XS.go (s_iload rfl rfl) ?_
  replace hf := xb_some hf
  obtain ⟨r15, e16, hf⟩ := hf
  refine r_callv rfl xvX12_wrong xm12_462 (kf_m_wrong (d := d) L0 e16) (LY.lt L0 (by decide)) (LY.k1262 L0) (by decide) rfl rfl (dl0 (by decide)) (by decide) (Nat.le_of_ble_eq_true rfl) ?_
  rintro _ _ ⟨⟨rfl, rfl⟩, L17⟩
  refine XS.go (s_goto (tgt := 203) rfl rfl) ?_
  exact XR.forget (L2 := [some (.ref 1262), none, some (.int x2), some (.int x3), some (.int x4), none, none, some (.int x7), none, none, none]) ⟨rfl, ⟨rfl, ⟨rfl, ⟨rfl, ⟨rfl, trivial⟩⟩⟩⟩⟩ (kb_m_toTable_203 hKT L17 hf)
def b_m_toTable_103 (KT : Int32 → Int32 → Int32 → XH → Option (Unit × XH)) (x4 : Int32) (h : XH) : Option (Unit × XH) := (Option.bind (f_m_wrong 6 x4 h) fun r18 => (some ((), r18.2)))
set_option maxRecDepth 20000 in
theorem kb_m_toTable_103 {l : Launch} {G : XG} {d : Nat} {KT : Int32 → Int32 → Int32 → XH → Option (Unit × XH)} {x4 : Int32} {h : XH} {r : Unit × XH} (hKT : ∀ (a0 : Int32) (a1 : Int32) (a2 : Int32) (h : XH) (r : Unit × XH), LY h → KT a0 a1 a2 h = some r → XC l G xEX12_toTable d [.ref 1262, .int a0, .int a1, .int a2] h (fun v h2 => (h2 = r.2 ∧ v = none) ∧ LY r.2)) (L0 : LY h) (hf : b_m_toTable_103 KT x4 h = some r) : XR l G xEX12_toTable (d + 5) (103, [some (.ref 1262), none, none, none, some (.int x4), none, none, none, none, none, none], [], h) (fun C => ∃ v, xRet xEX12_toTable C v ∧ (C.2.2.2 = r.2 ∧ v = none) ∧ LY r.2) := by
  unfold b_m_toTable_103 at hf
  refine XS.go (s_aloadn rfl rfl rfl) ?_
  refine XS.go (s_bipush (v := 6) rfl rfl) ?_
  refine XS.go (s_iload rfl rfl) ?_
  replace hf := xb_some hf
  obtain ⟨r18, e19, hf⟩ := hf
  refine r_callv rfl xvX12_wrong xm12_462 (kf_m_wrong (d := d) L0 e19) (LY.lt L0 (by decide)) (LY.k1262 L0) (by decide) rfl rfl (dl0 (by decide)) (by decide) (Nat.le_of_ble_eq_true rfl) ?_
  rintro _ _ ⟨⟨rfl, rfl⟩, L20⟩
  cases hf
  exact XR.retv rfl rfl (fun hret => ⟨_, hret, ⟨rfl, rfl⟩, L20⟩)
def g_m_toTable (KT : Int32 → Int32 → Int32 → XH → Option (Unit × XH)) (a0 : Int32) (a1 : Int32) (a2 : Int32) (h : XH) : Option (Unit × XH) := (Option.bind (f_m_led a0 h) fun r21 => (if (hi r21.2 1262 76) = 0 then (if a2 ≤ 16 then (if ¬ (hi r21.2 1262 78) = 200 then (Option.bind (f_m_number r21.1 4 (hsi r21.2 1262 78 ((hi r21.2 1262 78) + 1))) fun r27 => (if (lg_cmp ((Int32.toInt64 r21.1) - (Int32.toInt64 (Int64.toInt32 r27.1))) (0 : Int64)) < 0 then (b_m_toTable_103 KT r21.1 r27.2) else (if ¬ (lg_cmp (((Int32.toInt64 r21.1) - (Int32.toInt64 (Int64.toInt32 r27.1))) - ((Int32.toInt64 r21.1) - (Int32.toInt64 (Int64.toInt32 r27.1))) / (2 : Int64) * (2 : Int64)) (0 : Int64)) = 0 then (b_m_toTable_103 KT r21.1 r27.2) else (if (lg_cmp (((Int32.toInt64 r21.1) - (Int32.toInt64 (Int64.toInt32 r27.1))) + (4 : Int64)) (Int32.toInt64 (hi r27.2 1262 75))) ≤ 0 then (Option.bind (f_m_number (Int64.toInt32 ((Int32.toInt64 r21.1) - (Int32.toInt64 (Int64.toInt32 r27.1)))) 2 r27.2) fun r33 => (Option.bind (f_m_number ((Int64.toInt32 ((Int32.toInt64 r21.1) - (Int32.toInt64 (Int64.toInt32 r27.1)))) + 2) 2 r33.2) fun r36 => (if (Int64.toInt32 r33.1) < 4 then (b_m_toTable_164 KT a1 a2 r21.1 (Int64.toInt32 ((Int32.toInt64 r21.1) - (Int32.toInt64 (Int64.toInt32 r27.1)))) r36.2) else (if ¬ ((Int64.toInt32 r33.1) - (Int64.toInt32 r33.1) / 2 * 2) = 0 then (b_m_toTable_164 KT a1 a2 r21.1 (Int64.toInt32 ((Int32.toInt64 r21.1) - (Int32.toInt64 (Int64.toInt32 r27.1)))) r36.2) else (if ((Int64.toInt32 ((Int32.toInt64 r21.1) - (Int32.toInt64 (Int64.toInt32 r27.1)))) + (Int64.toInt32 r33.1)) ≤ (hi r36.2 1262 75) then (if (Int64.toInt32 r36.1) < 4 then (b_m_toTable_193 KT a1 a2 r21.1 (Int64.toInt32 ((Int32.toInt64 r21.1) - (Int32.toInt64 (Int64.toInt32 r27.1)))) r36.2) else (if (r21.1 + (Int64.toInt32 r36.1)) ≤ (hi r36.2 1262 75) then (b_m_toTable_203 KT a1 a2 r21.1 (Int64.toInt32 ((Int32.toInt64 r21.1) - (Int32.toInt64 (Int64.toInt32 r27.1)))) r36.2) else (b_m_toTable_193 KT a1 a2 r21.1 (Int64.toInt32 ((Int32.toInt64 r21.1) - (Int32.toInt64 (Int64.toInt32 r27.1)))) r36.2))) else (b_m_toTable_164 KT a1 a2 r21.1 (Int64.toInt32 ((Int32.toInt64 r21.1) - (Int32.toInt64 (Int64.toInt32 r27.1)))) r36.2)))))) else (b_m_toTable_103 KT r21.1 r27.2))))) else (Option.bind (f_m_wrong 5 a0 r21.2) fun r44 => (some ((), r44.2)))) else (Option.bind (f_m_wrong 4 a0 r21.2) fun r47 => (some ((), r47.2)))) else (some ((), r21.2))))
set_option maxRecDepth 20000 in
theorem kg_m_toTable {l : Launch} {G : XG} {d : Nat} {KT : Int32 → Int32 → Int32 → XH → Option (Unit × XH)} {a0 : Int32} {a1 : Int32} {a2 : Int32} {h : XH} {r : Unit × XH} (hKT : ∀ (a0 : Int32) (a1 : Int32) (a2 : Int32) (h : XH) (r : Unit × XH), LY h → KT a0 a1 a2 h = some r → XC l G xEX12_toTable d [.ref 1262, .int a0, .int a1, .int a2] h (fun v h2 => (h2 = r.2 ∧ v = none) ∧ LY r.2)) (L0 : LY h) (hf : g_m_toTable KT a0 a1 a2 h = some r) : XC l G xEX12_toTable (d + 5) [.ref 1262, .int a0, .int a1, .int a2] h (fun v h2 => (h2 = r.2 ∧ v = none) ∧ LY r.2) := by
  refine XC.virt xvX12_toTable (Nat.le_of_ble_eq_true rfl) ?_
  unfold g_m_toTable at hf
  refine XR.norm (L3 := [some (.ref 1262), some (.int a0), some (.int a1), some (.int a2), none, none, none, none, none, none, none]) rfl ?_
  refine XS.go (s_aloadn rfl rfl rfl) ?_
  refine XS.go (s_iloadn rfl rfl rfl) ?_
  replace hf := xb_some hf
  obtain ⟨r21, e22, hf⟩ := hf
  refine r_callv rfl xvX12_led xm12_473 (kf_m_led (d := d) L0 e22) (LY.lt L0 (by decide)) (LY.k1262 L0) (by decide) rfl rfl (dl (by decide)) (by decide) (Nat.le_of_ble_eq_true rfl) ?_
  rintro _ _ ⟨⟨rfl, rfl⟩, L23⟩
  refine XS.go (XS.lcl (L3 := [some (.ref 1262), some (.int a0), some (.int a1), some (.int a2), some (.int r21.1), none, none, none, none, none, none]) (s_istore rfl (Nat.le_of_ble_eq_true rfl)) rfl) ?_
  refine XS.go (s_aloadn rfl rfl rfl) ?_
  refine XS.go (s_getie rfl xf12_450 (LY.lt L23 (by decide)) (LY.k1262 L23) (by decide) rfl rfl) ?_
  refine r_if_eq (tgt := 15) rfl rfl (fun qc24 => ?_) (fun qc24 => ?_)
  · replace hf := xi_pos hf qc24
    refine XS.go (s_iloadn rfl rfl rfl) ?_
    refine XS.go (s_bipush (v := 16) rfl rfl) ?_
    refine r_icmp_le (tgt := 28) rfl rfl (fun qc25 => ?_) (fun qc25 => ?_)
    · replace hf := xi_pos hf qc25
      refine XS.go (s_aloadn rfl rfl rfl) ?_
      refine XS.go (s_getie rfl xf12_456 (LY.lt L23 (by decide)) (LY.k1262 L23) (by decide) rfl rfl) ?_
      refine XS.go (s_sipush (v := 200) rfl rfl) ?_
      refine r_icmp_ne (tgt := 45) rfl rfl (fun qc26 => ?_) (fun qc26 => ?_)
      · replace hf := xi_pos hf qc26
        refine XS.go (s_aloadn rfl rfl rfl) ?_
        refine XS.go (s_dup rfl rfl) ?_
        refine XS.go (s_getie rfl xf12_456 (LY.lt L23 (by decide)) (LY.k1262 L23) (by decide) rfl rfl) ?_
        refine XS.go (s_iconst (v := 1) rfl rfl) ?_
        refine XS.go (s_iadd rfl) ?_
        refine XS.go (s_puti rfl xf12_456 (LY.lt L23 (by decide)) (LY.k1262 L23) (by decide) rfl (Or.inl rfl)) ?_
        refine XS.go (s_iload rfl rfl) ?_
        refine XS.go (s_i2l rfl) ?_
        refine XS.go (s_aloadn rfl rfl rfl) ?_
        refine XS.go (s_iload rfl rfl) ?_
        refine XS.go (s_iconst (v := 4) rfl rfl) ?_
        replace hf := xb_some hf
        obtain ⟨r27, e28, hf⟩ := hf
        refine r_callv rfl xvX12_number xm12_467 (kf_m_number (d := d) (by simp only [LY_si, LY_sj]; exact L23) e28) (LY.lt (by simp only [LY_si, LY_sj]; exact L23) (by decide)) (LY.k1262 (by simp only [LY_si, LY_sj]; exact L23)) (by decide) rfl rfl (dl0 (by decide)) (by decide) (Nat.le_of_ble_eq_true rfl) ?_
        rintro _ _ ⟨⟨rfl, rfl⟩, L29⟩
        refine XS.go (s_l2i rfl) ?_
        refine XS.go (s_i2l rfl) ?_
        refine XS.go (s_lsub rfl) ?_
        refine XS.go (XS.lcl (L3 := [some (.ref 1262), some (.int a0), some (.int a1), some (.int a2), some (.int r21.1), some (.long ((Int32.toInt64 r21.1) - (Int32.toInt64 (Int64.toInt32 r27.1)))), none, none, none, none, none]) (s_lstore rfl (Nat.le_of_ble_eq_true rfl)) rfl) ?_
        refine XS.go (s_lload rfl rfl) ?_
        refine XS.go (s_lconst (v := 0) rfl rfl) ?_
        refine XS.go (s_lcmp rfl) ?_
        refine r_if_lt (tgt := 103) rfl rfl (fun qc30 => ?_) (fun qc30 => ?_)
        · replace hf := xi_pos hf qc30
          exact XR.forget (L2 := [some (.ref 1262), none, none, none, some (.int r21.1), none, none, none, none, none, none]) ⟨rfl, ⟨rfl, trivial⟩⟩ (kb_m_toTable_103 hKT L29 hf)
        · replace hf := xi_neg hf qc30
          refine XS.go (s_lload rfl rfl) ?_
          refine XS.go (s_ldc2 rfl (lg_9 177 rfl rfl)) ?_
          refine XS.go (s_lrem (by decide) rfl) ?_
          refine XS.go (s_lconst (v := 0) rfl rfl) ?_
          refine XS.go (s_lcmp rfl) ?_
          refine r_if_ne (tgt := 103) rfl rfl (fun qc31 => ?_) (fun qc31 => ?_)
          · replace hf := xi_pos hf qc31
            exact XR.forget (L2 := [some (.ref 1262), none, none, none, some (.int r21.1), none, none, none, none, none, none]) ⟨rfl, ⟨rfl, trivial⟩⟩ (kb_m_toTable_103 hKT L29 hf)
          · replace hf := xi_neg hf qc31
            refine XS.go (s_lload rfl rfl) ?_
            refine XS.go (s_ldc2 rfl (lg_9 176 rfl rfl)) ?_
            refine XS.go (s_ladd rfl) ?_
            refine XS.go (s_aloadn rfl rfl rfl) ?_
            refine XS.go (s_getie rfl xf12_459 (LY.lt L29 (by decide)) (LY.k1262 L29) (by decide) rfl rfl) ?_
            refine XS.go (s_i2l rfl) ?_
            refine XS.go (s_lcmp rfl) ?_
            refine r_if_le (tgt := 112) rfl rfl (fun qc32 => ?_) (fun qc32 => ?_)
            · replace hf := xi_pos hf qc32
              refine XS.go (s_lload rfl rfl) ?_
              refine XS.go (s_l2i rfl) ?_
              refine XS.go (XS.lcl (L3 := [some (.ref 1262), some (.int a0), some (.int a1), some (.int a2), some (.int r21.1), some (.long ((Int32.toInt64 r21.1) - (Int32.toInt64 (Int64.toInt32 r27.1)))), none, some (.int (Int64.toInt32 ((Int32.toInt64 r21.1) - (Int32.toInt64 (Int64.toInt32 r27.1))))), none, none, none]) (s_istore rfl (Nat.le_of_ble_eq_true rfl)) rfl) ?_
              refine XS.go (s_aloadn rfl rfl rfl) ?_
              refine XS.go (s_iload rfl rfl) ?_
              refine XS.go (s_iconst (v := 2) rfl rfl) ?_
              replace hf := xb_some hf
              obtain ⟨r33, e34, hf⟩ := hf
              refine r_callv rfl xvX12_number xm12_467 (kf_m_number (d := d) L29 e34) (LY.lt L29 (by decide)) (LY.k1262 L29) (by decide) rfl rfl (dl0 (by decide)) (by decide) (Nat.le_of_ble_eq_true rfl) ?_
              rintro _ _ ⟨⟨rfl, rfl⟩, L35⟩
              refine XS.go (s_l2i rfl) ?_
              refine XS.go (XS.lcl (L3 := [some (.ref 1262), some (.int a0), some (.int a1), some (.int a2), some (.int r21.1), some (.long ((Int32.toInt64 r21.1) - (Int32.toInt64 (Int64.toInt32 r27.1)))), none, some (.int (Int64.toInt32 ((Int32.toInt64 r21.1) - (Int32.toInt64 (Int64.toInt32 r27.1))))), some (.int (Int64.toInt32 r33.1)), none, none]) (s_istore rfl (Nat.le_of_ble_eq_true rfl)) rfl) ?_
              refine XS.go (s_aloadn rfl rfl rfl) ?_
              refine XS.go (s_iload rfl rfl) ?_
              refine XS.go (s_iconst (v := 2) rfl rfl) ?_
              refine XS.go (s_iadd rfl) ?_
              refine XS.go (s_iconst (v := 2) rfl rfl) ?_
              replace hf := xb_some hf
              obtain ⟨r36, e37, hf⟩ := hf
              refine r_callv rfl xvX12_number xm12_467 (kf_m_number (d := d) L35 e37) (LY.lt L35 (by decide)) (LY.k1262 L35) (by decide) rfl rfl (dl0 (by decide)) (by decide) (Nat.le_of_ble_eq_true rfl) ?_
              rintro _ _ ⟨⟨rfl, rfl⟩, L38⟩
              refine XS.go (s_l2i rfl) ?_
              refine XS.go (XS.lcl (L3 := [some (.ref 1262), some (.int a0), some (.int a1), some (.int a2), some (.int r21.1), some (.long ((Int32.toInt64 r21.1) - (Int32.toInt64 (Int64.toInt32 r27.1)))), none, some (.int (Int64.toInt32 ((Int32.toInt64 r21.1) - (Int32.toInt64 (Int64.toInt32 r27.1))))), some (.int (Int64.toInt32 r33.1)), some (.int (Int64.toInt32 r36.1)), none]) (s_istore rfl (Nat.le_of_ble_eq_true rfl)) rfl) ?_
              refine XS.go (s_iload rfl rfl) ?_
              refine XS.go (s_iconst (v := 4) rfl rfl) ?_
              refine r_icmp_lt (tgt := 164) rfl rfl (fun qc39 => ?_) (fun qc39 => ?_)
              · replace hf := xi_pos hf qc39
                exact XR.forget (L2 := [some (.ref 1262), none, some (.int a1), some (.int a2), some (.int r21.1), none, none, some (.int (Int64.toInt32 ((Int32.toInt64 r21.1) - (Int32.toInt64 (Int64.toInt32 r27.1))))), none, none, none]) ⟨rfl, ⟨rfl, ⟨rfl, ⟨rfl, ⟨rfl, trivial⟩⟩⟩⟩⟩ (kb_m_toTable_164 hKT L38 hf)
              · replace hf := xi_neg hf qc39
                refine XS.go (s_iload rfl rfl) ?_
                refine XS.go (s_iconst (v := 2) rfl rfl) ?_
                refine XS.go (s_irem (by decide) rfl) ?_
                refine r_if_ne (tgt := 164) rfl rfl (fun qc40 => ?_) (fun qc40 => ?_)
                · replace hf := xi_pos hf qc40
                  exact XR.forget (L2 := [some (.ref 1262), none, some (.int a1), some (.int a2), some (.int r21.1), none, none, some (.int (Int64.toInt32 ((Int32.toInt64 r21.1) - (Int32.toInt64 (Int64.toInt32 r27.1))))), none, none, none]) ⟨rfl, ⟨rfl, ⟨rfl, ⟨rfl, ⟨rfl, trivial⟩⟩⟩⟩⟩ (kb_m_toTable_164 hKT L38 hf)
                · replace hf := xi_neg hf qc40
                  refine XS.go (s_iload rfl rfl) ?_
                  refine XS.go (s_iload rfl rfl) ?_
                  refine XS.go (s_iadd rfl) ?_
                  refine XS.go (s_aloadn rfl rfl rfl) ?_
                  refine XS.go (s_getie rfl xf12_459 (LY.lt L38 (by decide)) (LY.k1262 L38) (by decide) rfl rfl) ?_
                  refine r_icmp_le (tgt := 175) rfl rfl (fun qc41 => ?_) (fun qc41 => ?_)
                  · replace hf := xi_pos hf qc41
                    refine XS.go (s_iload rfl rfl) ?_
                    refine XS.go (s_iconst (v := 4) rfl rfl) ?_
                    refine r_icmp_lt (tgt := 193) rfl rfl (fun qc42 => ?_) (fun qc42 => ?_)
                    · replace hf := xi_pos hf qc42
                      exact XR.forget (L2 := [some (.ref 1262), none, some (.int a1), some (.int a2), some (.int r21.1), none, none, some (.int (Int64.toInt32 ((Int32.toInt64 r21.1) - (Int32.toInt64 (Int64.toInt32 r27.1))))), none, none, none]) ⟨rfl, ⟨rfl, ⟨rfl, ⟨rfl, ⟨rfl, trivial⟩⟩⟩⟩⟩ (kb_m_toTable_193 hKT L38 hf)
                    · replace hf := xi_neg hf qc42
                      refine XS.go (s_iload rfl rfl) ?_
                      refine XS.go (s_iload rfl rfl) ?_
                      refine XS.go (s_iadd rfl) ?_
                      refine XS.go (s_aloadn rfl rfl rfl) ?_
                      refine XS.go (s_getie rfl xf12_459 (LY.lt L38 (by decide)) (LY.k1262 L38) (by decide) rfl rfl) ?_
                      refine r_icmp_le (tgt := 203) rfl rfl (fun qc43 => ?_) (fun qc43 => ?_)
                      · replace hf := xi_pos hf qc43
                        exact XR.forget (L2 := [some (.ref 1262), none, some (.int a1), some (.int a2), some (.int r21.1), none, none, some (.int (Int64.toInt32 ((Int32.toInt64 r21.1) - (Int32.toInt64 (Int64.toInt32 r27.1))))), none, none, none]) ⟨rfl, ⟨rfl, ⟨rfl, ⟨rfl, ⟨rfl, trivial⟩⟩⟩⟩⟩ (kb_m_toTable_203 hKT L38 hf)
                      · replace hf := xi_neg hf qc43
                        exact XR.forget (L2 := [some (.ref 1262), none, some (.int a1), some (.int a2), some (.int r21.1), none, none, some (.int (Int64.toInt32 ((Int32.toInt64 r21.1) - (Int32.toInt64 (Int64.toInt32 r27.1))))), none, none, none]) ⟨rfl, ⟨rfl, ⟨rfl, ⟨rfl, ⟨rfl, trivial⟩⟩⟩⟩⟩ (kb_m_toTable_193 hKT L38 hf)
                  · replace hf := xi_neg hf qc41
                    exact XR.forget (L2 := [some (.ref 1262), none, some (.int a1), some (.int a2), some (.int r21.1), none, none, some (.int (Int64.toInt32 ((Int32.toInt64 r21.1) - (Int32.toInt64 (Int64.toInt32 r27.1))))), none, none, none]) ⟨rfl, ⟨rfl, ⟨rfl, ⟨rfl, ⟨rfl, trivial⟩⟩⟩⟩⟩ (kb_m_toTable_164 hKT L38 hf)
            · replace hf := xi_neg hf qc32
              exact XR.forget (L2 := [some (.ref 1262), none, none, none, some (.int r21.1), none, none, none, none, none, none]) ⟨rfl, ⟨rfl, trivial⟩⟩ (kb_m_toTable_103 hKT L29 hf)
      · replace hf := xi_neg hf qc26
        refine XS.go (s_aloadn rfl rfl rfl) ?_
        refine XS.go (s_iconst (v := 5) rfl rfl) ?_
        refine XS.go (s_iloadn rfl rfl rfl) ?_
        replace hf := xb_some hf
        obtain ⟨r44, e45, hf⟩ := hf
        refine r_callv rfl xvX12_wrong xm12_462 (kf_m_wrong (d := d) L23 e45) (LY.lt L23 (by decide)) (LY.k1262 L23) (by decide) rfl rfl (dl0 (by decide)) (by decide) (Nat.le_of_ble_eq_true rfl) ?_
        rintro _ _ ⟨⟨rfl, rfl⟩, L46⟩
        cases hf
        exact XR.retv rfl rfl (fun hret => ⟨_, hret, ⟨rfl, rfl⟩, L46⟩)
    · replace hf := xi_neg hf qc25
      refine XS.go (s_aloadn rfl rfl rfl) ?_
      refine XS.go (s_iconst (v := 4) rfl rfl) ?_
      refine XS.go (s_iloadn rfl rfl rfl) ?_
      replace hf := xb_some hf
      obtain ⟨r47, e48, hf⟩ := hf
      refine r_callv rfl xvX12_wrong xm12_462 (kf_m_wrong (d := d) L23 e48) (LY.lt L23 (by decide)) (LY.k1262 L23) (by decide) rfl rfl (dl0 (by decide)) (by decide) (Nat.le_of_ble_eq_true rfl) ?_
      rintro _ _ ⟨⟨rfl, rfl⟩, L49⟩
      cases hf
      exact XR.retv rfl rfl (fun hret => ⟨_, hret, ⟨rfl, rfl⟩, L49⟩)
  · replace hf := xi_neg hf qc24
    cases hf
    exact XR.retv rfl rfl (fun hret => ⟨_, hret, ⟨rfl, rfl⟩, L23⟩)
def f_m_toTable : Nat → Int32 → Int32 → Int32 → XH → Option (Unit × XH)
  | 0, _, _, _, _ => none
  | n + 1, a0, a1, a2, h => g_m_toTable (f_m_toTable n) a0 a1 a2 h
theorem kf_m_toTable {l : Launch} {G : XG} {d n : Nat} {a0 : Int32} {a1 : Int32} {a2 : Int32} {h : XH} {r : Unit × XH} (L0 : LY h) (hf : f_m_toTable n a0 a1 a2 h = some r) : XC l G xEX12_toTable (d + 5 * n) [.ref 1262, .int a0, .int a1, .int a2] h (fun v h2 => (h2 = r.2 ∧ v = none) ∧ LY r.2) := by
  induction n generalizing a0 a1 a2 h r with
  | zero => cases hf
  | succ n ih =>
    have e9 : d + 5 * (n + 1) = (d + 5 * n) + 5 := by omega
    rw [e9]
    exact kg_m_toTable (fun a0 a1 a2 h r L0 hf => ih (h := h) (r := r) (a0 := a0) (a1 := a1) (a2 := a2) L0 hf) L0 hf
def b_m_judge_42 (h : XH) : Option (Int32 × XH) := (if ¬ (hi h 1262 76) = 0 then (some (0, h)) else (some (1, h)))
set_option maxRecDepth 20000 in
theorem kb_m_judge_42 {l : Launch} {G : XG} {d : Nat} {h : XH} {r : Int32 × XH} (L0 : LY h) (hf : b_m_judge_42 h = some r) : XR l G xEX12_judge (d + 201) (42, [some (.ref 1262)], [], h) (fun C => ∃ v, xRet xEX12_judge C v ∧ (C.2.2.2 = r.2 ∧ v = some (.int r.1)) ∧ LY r.2) := by
  unfold b_m_judge_42 at hf
  refine XS.go (s_aloadn rfl rfl rfl) ?_
  refine XS.go (s_getie rfl xf12_450 (LY.lt L0 (by decide)) (LY.k1262 L0) (by decide) rfl rfl) ?_
  refine r_if_ne (tgt := 53) rfl rfl (fun qc1 => ?_) (fun qc1 => ?_)
  · replace hf := xi_pos hf qc1
    refine XS.go (s_iconst (v := 0) rfl rfl) ?_
    cases hf
    exact XR.retz rfl rfl (by decide) (fun hret => ⟨_, hret, ⟨rfl, rfl⟩, L0⟩)
  · replace hf := xi_neg hf qc1
    refine XS.go (s_iconst (v := 1) rfl rfl) ?_
    refine XS.go (s_goto (tgt := 54) rfl rfl) ?_
    cases hf
    exact XR.retz rfl rfl (by decide) (fun hret => ⟨_, hret, ⟨rfl, rfl⟩, L0⟩)
def f_m_judge (h : XH) : Option (Int32 × XH) := (if 4 ≤ (hi h 1262 75) then (Option.bind (f_m_toTable 40 0 (hi h 1262 45) 1 (hsi (hsi (hsi h 1262 76 0) 1262 77 0) 1262 78 0)) fun r3 => (b_m_judge_42 r3.2)) else (Option.bind (f_m_wrong 1 0 (hsi (hsi (hsi h 1262 76 0) 1262 77 0) 1262 78 0)) fun r6 => (b_m_judge_42 r6.2)))
set_option maxRecDepth 20000 in
theorem kf_m_judge {l : Launch} {G : XG} {d : Nat} {h : XH} {r : Int32 × XH} (L0 : LY h) (hf : f_m_judge h = some r) : XC l G xEX12_judge (d + 201) [.ref 1262] h (fun v h2 => (h2 = r.2 ∧ v = some (.int r.1)) ∧ LY r.2) := by
  refine XC.virt xvX12_judge (Nat.le_of_ble_eq_true rfl) ?_
  unfold f_m_judge at hf
  refine XR.norm (L3 := [some (.ref 1262)]) rfl ?_
  refine XS.go (s_aloadn rfl rfl rfl) ?_
  refine XS.go (s_iconst (v := 0) rfl rfl) ?_
  refine XS.go (s_puti rfl xf12_450 (LY.lt L0 (by decide)) (LY.k1262 L0) (by decide) rfl (Or.inl rfl)) ?_
  refine XS.go (s_aloadn rfl rfl rfl) ?_
  refine XS.go (s_iconst (v := 0) rfl rfl) ?_
  refine XS.go (s_puti rfl xf12_453 (LY.lt (by simp only [LY_si, LY_sj]; exact L0) (by decide)) (LY.k1262 (by simp only [LY_si, LY_sj]; exact L0)) (by decide) rfl (Or.inl rfl)) ?_
  refine XS.go (s_aloadn rfl rfl rfl) ?_
  refine XS.go (s_iconst (v := 0) rfl rfl) ?_
  refine XS.go (s_puti rfl xf12_456 (LY.lt (by simp only [LY_si, LY_sj]; exact L0) (by decide)) (LY.k1262 (by simp only [LY_si, LY_sj]; exact L0)) (by decide) rfl (Or.inl rfl)) ?_
  refine XS.go (s_aloadn rfl rfl rfl) ?_
  refine XS.go (s_getie rfl xf12_459 (LY.lt (by simp only [LY_si, LY_sj]; exact L0) (by decide)) (LY.k1262 (by simp only [LY_si, LY_sj]; exact L0)) (by decide) rfl ((hi_hsi_nk (by decide)).trans ((hi_hsi_nk (by decide)).trans (hi_hsi_nk (by decide))))) ?_
  refine XS.go (s_iconst (v := 4) rfl rfl) ?_
  refine r_icmp_ge (tgt := 32) rfl rfl (fun qc2 => ?_) (fun qc2 => ?_)
  · replace hf := xi_pos hf qc2
    refine XS.go (s_aloadn rfl rfl rfl) ?_
    refine XS.go (s_iconst (v := 0) rfl rfl) ?_
    refine XS.go (s_aloadn rfl rfl rfl) ?_
    refine XS.go (s_getie rfl xf12_338 (LY.lt (by simp only [LY_si, LY_sj]; exact L0) (by decide)) (LY.k1262 (by simp only [LY_si, LY_sj]; exact L0)) (by decide) rfl ((hi_hsi_nk (by decide)).trans ((hi_hsi_nk (by decide)).trans (hi_hsi_nk (by decide))))) ?_
    refine XS.go (s_iconst (v := 1) rfl rfl) ?_
    replace hf := xb_some hf
    obtain ⟨r3, e4, hf⟩ := hf
    refine r_callv rfl xvX12_toTable xm12_464 (kf_m_toTable (n := 40) (d := d) (by simp only [LY_si, LY_sj]; exact L0) e4) (LY.lt (by simp only [LY_si, LY_sj]; exact L0) (by decide)) (LY.k1262 (by simp only [LY_si, LY_sj]; exact L0)) (by decide) rfl rfl (dl (by decide)) (by decide) (Nat.le_of_ble_eq_true rfl) ?_
    rintro _ _ ⟨⟨rfl, rfl⟩, L5⟩
    exact XR.forget (L2 := [some (.ref 1262)]) ⟨rfl, trivial⟩ (kb_m_judge_42 L5 hf)
  · replace hf := xi_neg hf qc2
    refine XS.go (s_aloadn rfl rfl rfl) ?_
    refine XS.go (s_iconst (v := 1) rfl rfl) ?_
    refine XS.go (s_iconst (v := 0) rfl rfl) ?_
    replace hf := xb_some hf
    obtain ⟨r6, e7, hf⟩ := hf
    refine r_callv rfl xvX12_wrong xm12_462 (kf_m_wrong (d := d) (by simp only [LY_si, LY_sj]; exact L0) e7) (LY.lt (by simp only [LY_si, LY_sj]; exact L0) (by decide)) (LY.k1262 (by simp only [LY_si, LY_sj]; exact L0)) (by decide) rfl rfl (dl0 (by decide)) (by decide) (Nat.le_of_ble_eq_true rfl) ?_
    rintro _ _ ⟨⟨rfl, rfl⟩, L8⟩
    refine XS.go (s_goto (tgt := 42) rfl rfl) ?_
    exact XR.forget (L2 := [some (.ref 1262)]) ⟨rfl, trivial⟩ (kb_m_judge_42 L8 hf)
def f_m_enter (a0 : Int32) (a1 : Int32) (a2 : Int32) (a3 : Int32) (h : XH) : Option (Unit × XH) := (if 0 ≤ (hi h 1262 87) ∧ (hi h 1262 87) < nI 100 then (some ((), (hsi (hsi (hsi (hsi (hsi h 1312 (Int32.toNatClampNeg (hi h 1262 87)) a0) 1313 (Int32.toNatClampNeg (hi h 1262 87)) a1) 1314 (Int32.toNatClampNeg (hi h 1262 87)) a2) 1315 (Int32.toNatClampNeg (hi h 1262 87)) a3) 1262 87 ((hi h 1262 87) + 1)))) else none)
set_option maxRecDepth 20000 in
theorem kf_m_enter {l : Launch} {G : XG} {d : Nat} {a0 : Int32} {a1 : Int32} {a2 : Int32} {a3 : Int32} {h : XH} {r : Unit × XH} (L0 : LY h) (hf : f_m_enter a0 a1 a2 a3 h = some r) : XC l G xEX12_enter d [.ref 1262, .int a0, .int a1, .int a2, .int a3] h (fun v h2 => (h2 = r.2 ∧ v = none) ∧ LY r.2) := by
  refine XC.virt xvX12_enter (Nat.le_of_ble_eq_true rfl) ?_
  unfold f_m_enter at hf
  refine XR.norm (L3 := [some (.ref 1262), some (.int a0), some (.int a1), some (.int a2), some (.int a3)]) rfl ?_
  refine XS.go (s_aloadn rfl rfl rfl) ?_
  refine XS.go (s_getr rfl xf12_163 (LY.lt L0 (by decide)) (LY.k1262 L0) (by decide) rfl (LY.r1262_83 L0)) ?_
  refine XS.go (s_aloadn rfl rfl rfl) ?_
  refine XS.go (s_getie rfl xf12_500 (LY.lt L0 (by decide)) (LY.k1262 L0) (by decide) rfl rfl) ?_
  refine XS.go (s_iloadn rfl rfl rfl) ?_
  replace hf := xi_none hf
  obtain ⟨qk1, hf⟩ := hf
  refine XS.go (s_iast rfl (LY.lt L0 (by decide)) (LY.k1312 L0) (inLit (LY.n1312 L0) qk1.1 qk1.2 (by decide))) ?_
  refine XS.go (s_aloadn rfl rfl rfl) ?_
  refine XS.go (s_getr rfl xf12_166 (LY.lt (by simp only [LY_si, LY_sj]; exact L0) (by decide)) (LY.k1262 (by simp only [LY_si, LY_sj]; exact L0)) (by decide) rfl (LY.r1262_84 (by simp only [LY_si, LY_sj]; exact L0))) ?_
  refine XS.go (s_aloadn rfl rfl rfl) ?_
  refine XS.go (s_getie rfl xf12_500 (LY.lt (by simp only [LY_si, LY_sj]; exact L0) (by decide)) (LY.k1262 (by simp only [LY_si, LY_sj]; exact L0)) (by decide) rfl (hi_hsi_na (by decide))) ?_
  refine XS.go (s_iloadn rfl rfl rfl) ?_
  refine XS.go (s_iast rfl (LY.lt (by simp only [LY_si, LY_sj]; exact L0) (by decide)) (LY.k1313 (by simp only [LY_si, LY_sj]; exact L0)) (inLit (LY.n1313 (by simp only [LY_si, LY_sj]; exact L0)) qk1.1 qk1.2 (by decide))) ?_
  refine XS.go (s_aloadn rfl rfl rfl) ?_
  refine XS.go (s_getr rfl xf12_169 (LY.lt (by simp only [LY_si, LY_sj]; exact L0) (by decide)) (LY.k1262 (by simp only [LY_si, LY_sj]; exact L0)) (by decide) rfl (LY.r1262_85 (by simp only [LY_si, LY_sj]; exact L0))) ?_
  refine XS.go (s_aloadn rfl rfl rfl) ?_
  refine XS.go (s_getie rfl xf12_500 (LY.lt (by simp only [LY_si, LY_sj]; exact L0) (by decide)) (LY.k1262 (by simp only [LY_si, LY_sj]; exact L0)) (by decide) rfl ((hi_hsi_na (by decide)).trans (hi_hsi_na (by decide)))) ?_
  refine XS.go (s_iloadn rfl rfl rfl) ?_
  refine XS.go (s_iast rfl (LY.lt (by simp only [LY_si, LY_sj]; exact L0) (by decide)) (LY.k1314 (by simp only [LY_si, LY_sj]; exact L0)) (inLit (LY.n1314 (by simp only [LY_si, LY_sj]; exact L0)) qk1.1 qk1.2 (by decide))) ?_
  refine XS.go (s_aloadn rfl rfl rfl) ?_
  refine XS.go (s_getr rfl xf12_172 (LY.lt (by simp only [LY_si, LY_sj]; exact L0) (by decide)) (LY.k1262 (by simp only [LY_si, LY_sj]; exact L0)) (by decide) rfl (LY.r1262_86 (by simp only [LY_si, LY_sj]; exact L0))) ?_
  refine XS.go (s_aloadn rfl rfl rfl) ?_
  refine XS.go (s_getie rfl xf12_500 (LY.lt (by simp only [LY_si, LY_sj]; exact L0) (by decide)) (LY.k1262 (by simp only [LY_si, LY_sj]; exact L0)) (by decide) rfl ((hi_hsi_na (by decide)).trans ((hi_hsi_na (by decide)).trans (hi_hsi_na (by decide))))) ?_
  refine XS.go (s_iload rfl rfl) ?_
  refine XS.go (s_iast rfl (LY.lt (by simp only [LY_si, LY_sj]; exact L0) (by decide)) (LY.k1315 (by simp only [LY_si, LY_sj]; exact L0)) (inLit (LY.n1315 (by simp only [LY_si, LY_sj]; exact L0)) qk1.1 qk1.2 (by decide))) ?_
  refine XS.go (s_aloadn rfl rfl rfl) ?_
  refine XS.go (s_dup rfl rfl) ?_
  refine XS.go (s_getie rfl xf12_500 (LY.lt (by simp only [LY_si, LY_sj]; exact L0) (by decide)) (LY.k1262 (by simp only [LY_si, LY_sj]; exact L0)) (by decide) rfl ((hi_hsi_na (by decide)).trans ((hi_hsi_na (by decide)).trans ((hi_hsi_na (by decide)).trans (hi_hsi_na (by decide)))))) ?_
  refine XS.go (s_iconst (v := 1) rfl rfl) ?_
  refine XS.go (s_iadd rfl) ?_
  refine XS.go (s_puti rfl xf12_500 (LY.lt (by simp only [LY_si, LY_sj]; exact L0) (by decide)) (LY.k1262 (by simp only [LY_si, LY_sj]; exact L0)) (by decide) rfl (Or.inl rfl)) ?_
  cases hf
  exact XR.retv rfl rfl (fun hret => ⟨_, hret, ⟨rfl, rfl⟩, (by simp only [LY_si, LY_sj]; exact L0)⟩)
def f_m_atRoot (h : XH) : Option (Unit × XH) := (Option.bind (f_m_number 0 4 (hsi h 1262 87 0)) fun r1 => (Option.bind (f_m_enter 3 (hi h 1262 45) (-1) (Int64.toInt32 r1.1) r1.2) fun r4 => (some ((), r4.2))))
set_option maxRecDepth 20000 in
theorem kf_m_atRoot {l : Launch} {G : XG} {d : Nat} {h : XH} {r : Unit × XH} (L0 : LY h) (hf : f_m_atRoot h = some r) : XC l G xEX12_atRoot (d + 1) [.ref 1262] h (fun v h2 => (h2 = r.2 ∧ v = none) ∧ LY r.2) := by
  refine XC.virt xvX12_atRoot (Nat.le_of_ble_eq_true rfl) ?_
  unfold f_m_atRoot at hf
  refine XR.norm (L3 := [some (.ref 1262)]) rfl ?_
  refine XS.go (s_aloadn rfl rfl rfl) ?_
  refine XS.go (s_iconst (v := 0) rfl rfl) ?_
  refine XS.go (s_puti rfl xf12_500 (LY.lt L0 (by decide)) (LY.k1262 L0) (by decide) rfl (Or.inl rfl)) ?_
  refine XS.go (s_aloadn rfl rfl rfl) ?_
  refine XS.go (s_iconst (v := 3) rfl rfl) ?_
  refine XS.go (s_aloadn rfl rfl rfl) ?_
  refine XS.go (s_getie rfl xf12_338 (LY.lt (by simp only [LY_si, LY_sj]; exact L0) (by decide)) (LY.k1262 (by simp only [LY_si, LY_sj]; exact L0)) (by decide) rfl (hi_hsi_nk (by decide))) ?_
  refine XS.go (s_iconst (v := (-1)) rfl rfl) ?_
  refine XS.go (s_aloadn rfl rfl rfl) ?_
  refine XS.go (s_iconst (v := 0) rfl rfl) ?_
  refine XS.go (s_iconst (v := 4) rfl rfl) ?_
  replace hf := xb_some hf
  obtain ⟨r1, e2, hf⟩ := hf
  refine r_callv rfl xvX12_number xm12_467 (kf_m_number (d := d) (by simp only [LY_si, LY_sj]; exact L0) e2) (LY.lt (by simp only [LY_si, LY_sj]; exact L0) (by decide)) (LY.k1262 (by simp only [LY_si, LY_sj]; exact L0)) (by decide) rfl rfl (dl0 (by decide)) (by decide) (Nat.le_of_ble_eq_true rfl) ?_
  rintro _ _ ⟨⟨rfl, rfl⟩, L3⟩
  refine XS.go (s_l2i rfl) ?_
  replace hf := xb_some hf
  obtain ⟨r4, e5, hf⟩ := hf
  refine r_callv rfl xvX12_enter xm12_503 (kf_m_enter (d := d) L3 e5) (LY.lt L3 (by decide)) (LY.k1262 L3) (by decide) rfl rfl (dl0 (by decide)) (by decide) (Nat.le_of_ble_eq_true rfl) ?_
  rintro _ _ ⟨⟨rfl, rfl⟩, L6⟩
  cases hf
  exact XR.retv rfl rfl (fun hret => ⟨_, hret, ⟨rfl, rfl⟩, L6⟩)
def s_m_back_10 (K10 : Int32 → XH → Option (Unit × XH)) (x1 : Int32) (h : XH) : Option (Unit × XH) := (if (hi h 1262 75) ≤ x1 then (some ((), h)) else (if 0 ≤ x1 ∧ x1 < nI 4000 then (K10 (x1 + 1) (hsi h 1310 (Int32.toNatClampNeg x1) (hi h 1311 (Int32.toNatClampNeg x1)))) else none))
set_option maxRecDepth 20000 in
theorem ks_m_back_10 {l : Launch} {G : XG} {d : Nat} {K10 : Int32 → XH → Option (Unit × XH)} {x1 : Int32} {h : XH} {r : Unit × XH} (hK10 : ∀ (x1 : Int32) (h : XH), LY h → K10 x1 h = some r → XR l G xEX12_back d (10, [some (.ref 1262), some (.int x1)], [], h) (fun C => ∃ v, xRet xEX12_back C v ∧ (C.2.2.2 = r.2 ∧ v = none) ∧ LY r.2)) (L0 : LY h) (hf : s_m_back_10 K10 x1 h = some r) : XR l G xEX12_back d (10, [some (.ref 1262), some (.int x1)], [], h) (fun C => ∃ v, xRet xEX12_back C v ∧ (C.2.2.2 = r.2 ∧ v = none) ∧ LY r.2) := by
  unfold s_m_back_10 at hf
  refine XS.go (s_iloadn rfl rfl rfl) ?_
  refine XS.go (s_aloadn rfl rfl rfl) ?_
  refine XS.go (s_getie rfl xf12_459 (LY.lt L0 (by decide)) (LY.k1262 L0) (by decide) rfl rfl) ?_
  refine r_icmp_ge (tgt := 36) rfl rfl (fun qc1 => ?_) (fun qc1 => ?_)
  · replace hf := xi_pos hf qc1
    cases hf
    exact XR.retv rfl rfl (fun hret => ⟨_, hret, ⟨rfl, rfl⟩, L0⟩)
  · replace hf := xi_neg hf qc1
    refine XS.go (s_aloadn rfl rfl rfl) ?_
    refine XS.go (s_getr rfl xf12_157 (LY.lt L0 (by decide)) (LY.k1262 L0) (by decide) rfl (LY.r1262_74 L0)) ?_
    refine XS.go (s_iloadn rfl rfl rfl) ?_
    refine XS.go (s_aloadn rfl rfl rfl) ?_
    refine XS.go (s_getr rfl xf12_160 (LY.lt L0 (by decide)) (LY.k1262 L0) (by decide) rfl (LY.r1262_79 L0)) ?_
    refine XS.go (s_iloadn rfl rfl rfl) ?_
    replace hf := xi_none hf
    obtain ⟨qk2, hf⟩ := hf
    refine XS.go (s_ialde rfl (LY.lt L0 (by decide)) (LY.k1311 L0) (inLit (LY.n1311 L0) qk2.1 qk2.2 (by decide)) rfl) ?_
    refine XS.go (s_iast rfl (LY.lt L0 (by decide)) (LY.k1310 L0) (inLit (LY.n1310 L0) qk2.1 qk2.2 (by decide))) ?_
    refine XS.go (XS.lcl (L3 := [some (.ref 1262), some (.int (x1 + 1))]) (s_inc rfl rfl (Nat.le_of_ble_eq_true rfl)) rfl) ?_
    refine XS.go (s_goto (tgt := 10) rfl rfl) ?_
    exact XR.forget (L2 := [some (.ref 1262), some (.int (x1 + 1))]) ⟨rfl, ⟨rfl, trivial⟩⟩ (hK10 (x1 + 1) _ (by simp only [LY_si, LY_sj]; exact L0) hf)
def b_m_back_10 : Nat → Int32 → XH → Option (Unit × XH)
  | 0, _, _ => none
  | n + 1, x1, h => s_m_back_10 (b_m_back_10 n) x1 h
theorem kb_m_back_10 {l : Launch} {G : XG} {d : Nat} {n : Nat} {x1 : Int32} {h : XH} {r : Unit × XH} (L0 : LY h) (hf : b_m_back_10 n x1 h = some r) : XR l G xEX12_back d (10, [some (.ref 1262), some (.int x1)], [], h) (fun C => ∃ v, xRet xEX12_back C v ∧ (C.2.2.2 = r.2 ∧ v = none) ∧ LY r.2) := by
  induction n generalizing x1 h with
  | zero => cases hf
  | succ n ih => exact ks_m_back_10 (fun x1 h L0 hf => ih (h := h) (x1 := x1) L0 hf) L0 hf
def f_m_back (h : XH) : Option (Unit × XH) := (b_m_back_10 100000 0 (hsi h 1262 75 (hi h 1262 80)))
set_option maxRecDepth 20000 in
theorem kf_m_back {l : Launch} {G : XG} {d : Nat} {h : XH} {r : Unit × XH} (L0 : LY h) (hf : f_m_back h = some r) : XC l G xEX12_back d [.ref 1262] h (fun v h2 => (h2 = r.2 ∧ v = none) ∧ LY r.2) := by
  refine XC.virt xvX12_back (Nat.le_of_ble_eq_true rfl) ?_
  unfold f_m_back at hf
  refine XR.norm (L3 := [some (.ref 1262), none]) rfl ?_
  refine XS.go (s_aloadn rfl rfl rfl) ?_
  refine XS.go (s_aloadn rfl rfl rfl) ?_
  refine XS.go (s_getie rfl xf12_444 (LY.lt L0 (by decide)) (LY.k1262 L0) (by decide) rfl rfl) ?_
  refine XS.go (s_puti rfl xf12_459 (LY.lt L0 (by decide)) (LY.k1262 L0) (by decide) rfl (Or.inl rfl)) ?_
  refine XS.go (s_iconst (v := 0) rfl rfl) ?_
  refine XS.go (XS.lcl (L3 := [some (.ref 1262), some (.int 0)]) (s_istoren rfl rfl (Nat.le_of_ble_eq_true rfl)) rfl) ?_
  exact XR.forget (L2 := [some (.ref 1262), some (.int 0)]) ⟨rfl, ⟨rfl, trivial⟩⟩ (kb_m_back_10 (by simp only [LY_si, LY_sj]; exact L0) hf)
def s_m_load_148 (K148 : Int32 → XH → Option (Int32 × XH)) (x4 : Int32) (h : XH) : Option (Int32 × XH) := (if (hi h 1262 75) ≤ x4 then (Option.bind (f_m_atRoot (hsi (hsi h 1262 81 1) 1262 82 (hi h 1262 78))) fun r2 => (some (1, r2.2))) else (if 0 ≤ x4 ∧ x4 < nI 4000 then (K148 (x4 + 1) (hsi h 1311 (Int32.toNatClampNeg x4) (hi h 1310 (Int32.toNatClampNeg x4)))) else none))
set_option maxRecDepth 20000 in
theorem ks_m_load_148 {l : Launch} {G : XG} {d : Nat} {K148 : Int32 → XH → Option (Int32 × XH)} {x4 : Int32} {h : XH} {r : Int32 × XH} (hK148 : ∀ (x4 : Int32) (h : XH), LY h → K148 x4 h = some r → XR l G xEX12_load (d + 202) (148, [some (.ref 1262), none, none, none, some (.int x4)], [], h) (fun C => ∃ v, xRet xEX12_load C v ∧ (C.2.2.2 = r.2 ∧ v = some (.int r.1)) ∧ LY r.2)) (L0 : LY h) (hf : s_m_load_148 K148 x4 h = some r) : XR l G xEX12_load (d + 202) (148, [some (.ref 1262), none, none, none, some (.int x4)], [], h) (fun C => ∃ v, xRet xEX12_load C v ∧ (C.2.2.2 = r.2 ∧ v = some (.int r.1)) ∧ LY r.2) := by
  unfold s_m_load_148 at hf
  refine XS.go (s_iload rfl rfl) ?_
  refine XS.go (s_aloadn rfl rfl rfl) ?_
  refine XS.go (s_getie rfl xf12_459 (LY.lt L0 (by decide)) (LY.k1262 L0) (by decide) rfl rfl) ?_
  refine r_icmp_ge (tgt := 177) rfl rfl (fun qc1 => ?_) (fun qc1 => ?_)
  · replace hf := xi_pos hf qc1
    refine XS.go (s_aloadn rfl rfl rfl) ?_
    refine XS.go (s_iconst (v := 1) rfl rfl) ?_
    refine XS.go (s_putz rfl xf12_360 (LY.lt L0 (by decide)) (LY.k1262 L0) (by decide) rfl (Or.inl rfl) (by decide)) ?_
    refine XS.go (s_aloadn rfl rfl rfl) ?_
    refine XS.go (s_aloadn rfl rfl rfl) ?_
    refine XS.go (s_getie rfl xf12_456 (LY.lt (by simp only [LY_si, LY_sj]; exact L0) (by decide)) (LY.k1262 (by simp only [LY_si, LY_sj]; exact L0)) (by decide) rfl (hi_hsi_nk (by decide))) ?_
    refine XS.go (s_puti rfl xf12_447 (LY.lt (by simp only [LY_si, LY_sj]; exact L0) (by decide)) (LY.k1262 (by simp only [LY_si, LY_sj]; exact L0)) (by decide) rfl (Or.inl rfl)) ?_
    refine XS.go (s_aloadn rfl rfl rfl) ?_
    replace hf := xb_some hf
    obtain ⟨r2, e3, hf⟩ := hf
    refine r_callv rfl xvX12_atRoot xm12_512 (kf_m_atRoot (d := d) (by simp only [LY_si, LY_sj]; exact L0) e3) (LY.lt (by simp only [LY_si, LY_sj]; exact L0) (by decide)) (LY.k1262 (by simp only [LY_si, LY_sj]; exact L0)) (by decide) rfl rfl (dl (by decide)) (by decide) (Nat.le_of_ble_eq_true rfl) ?_
    rintro _ _ ⟨⟨rfl, rfl⟩, L4⟩
    refine XS.go (s_iconst (v := 1) rfl rfl) ?_
    cases hf
    exact XR.retz rfl rfl (by decide) (fun hret => ⟨_, hret, ⟨rfl, rfl⟩, L4⟩)
  · replace hf := xi_neg hf qc1
    refine XS.go (s_aloadn rfl rfl rfl) ?_
    refine XS.go (s_getr rfl xf12_160 (LY.lt L0 (by decide)) (LY.k1262 L0) (by decide) rfl (LY.r1262_79 L0)) ?_
    refine XS.go (s_iload rfl rfl) ?_
    refine XS.go (s_aloadn rfl rfl rfl) ?_
    refine XS.go (s_getr rfl xf12_157 (LY.lt L0 (by decide)) (LY.k1262 L0) (by decide) rfl (LY.r1262_74 L0)) ?_
    refine XS.go (s_iload rfl rfl) ?_
    replace hf := xi_none hf
    obtain ⟨qk5, hf⟩ := hf
    refine XS.go (s_ialde rfl (LY.lt L0 (by decide)) (LY.k1310 L0) (inLit (LY.n1310 L0) qk5.1 qk5.2 (by decide)) rfl) ?_
    refine XS.go (s_iast rfl (LY.lt L0 (by decide)) (LY.k1311 L0) (inLit (LY.n1311 L0) qk5.1 qk5.2 (by decide))) ?_
    refine XS.go (XS.lcl (L3 := [some (.ref 1262), none, none, none, some (.int (x4 + 1))]) (s_inc rfl rfl (Nat.le_of_ble_eq_true rfl)) rfl) ?_
    refine XS.go (s_goto (tgt := 148) rfl rfl) ?_
    exact XR.forget (L2 := [some (.ref 1262), none, none, none, some (.int (x4 + 1))]) ⟨rfl, ⟨rfl, trivial⟩⟩ (hK148 (x4 + 1) _ (by simp only [LY_si, LY_sj]; exact L0) hf)
def b_m_load_148 : Nat → Int32 → XH → Option (Int32 × XH)
  | 0, _, _ => none
  | n + 1, x4, h => s_m_load_148 (b_m_load_148 n) x4 h
theorem kb_m_load_148 {l : Launch} {G : XG} {d : Nat} {n : Nat} {x4 : Int32} {h : XH} {r : Int32 × XH} (L0 : LY h) (hf : b_m_load_148 n x4 h = some r) : XR l G xEX12_load (d + 202) (148, [some (.ref 1262), none, none, none, some (.int x4)], [], h) (fun C => ∃ v, xRet xEX12_load C v ∧ (C.2.2.2 = r.2 ∧ v = some (.int r.1)) ∧ LY r.2) := by
  induction n generalizing x4 h with
  | zero => cases hf
  | succ n ih => exact ks_m_load_148 (fun x4 h L0 hf => ih (h := h) (x4 := x4) L0 hf) L0 hf
def b_m_load_99 (K67 : Int32 → Int32 → XH → Option (Int32 × XH)) (x1 : Int32) (x3 : Int32) (y1 : Int32) (y2 : Int32) (h : XH) : Option (Int32 × XH) := (if 0 ≤ y1 ∧ y1 < nI 4000 then (K67 x1 (x3 + 1) (hsi h 1310 (Int32.toNatClampNeg y1) y2)) else none)
set_option maxRecDepth 20000 in
theorem kb_m_load_99 {l : Launch} {G : XG} {d : Nat} {K67 : Int32 → Int32 → XH → Option (Int32 × XH)} {x1 : Int32} {x3 : Int32} {y1 : Int32} {y2 : Int32} {h : XH} {r : Int32 × XH} (hK67 : ∀ (x1 : Int32) (x3 : Int32) (h : XH), LY h → K67 x1 x3 h = some r → XR l G xEX12_load (d + 202) (67, [some (.ref 1262), some (.int x1), none, some (.int x3), none], [], h) (fun C => ∃ v, xRet xEX12_load C v ∧ (C.2.2.2 = r.2 ∧ v = some (.int r.1)) ∧ LY r.2)) (L0 : LY h) (hf : b_m_load_99 K67 x1 x3 y1 y2 h = some r) : XR l G xEX12_load (d + 202) (99, [some (.ref 1262), some (.int x1), none, some (.int x3), none], [(.int y2), (.int y1), (.ref 1310)], h) (fun C => ∃ v, xRet xEX12_load C v ∧ (C.2.2.2 = r.2 ∧ v = some (.int r.1)) ∧ LY r.2) := by
  unfold b_m_load_99 at hf
  replace hf := xi_none hf
  obtain ⟨qk6, hf⟩ := hf
  refine XS.go (s_iast rfl (LY.lt L0 (by decide)) (LY.k1310 L0) (inLit (LY.n1310 L0) qk6.1 qk6.2 (by decide))) ?_
  refine XS.go (XS.lcl (L3 := [some (.ref 1262), some (.int x1), none, some (.int (x3 + 1)), none]) (s_inc rfl rfl (Nat.le_of_ble_eq_true rfl)) rfl) ?_
  refine XS.go (s_goto (tgt := 67) rfl rfl) ?_
  exact XR.forget (L2 := [some (.ref 1262), some (.int x1), none, some (.int (x3 + 1)), none]) ⟨rfl, ⟨rfl, ⟨rfl, trivial⟩⟩⟩ (hK67 x1 (x3 + 1) _ (by simp only [LY_si, LY_sj]; exact L0) hf)
def s_m_load_67 (K67 : Int32 → Int32 → XH → Option (Int32 × XH)) (x1 : Int32) (x3 : Int32) (h : XH) : Option (Int32 × XH) := (if (hi h 1262 75) ≤ x3 then (Option.bind (f_m_judge h) fun r8 => (if ¬ r8.1 = 0 then (b_m_load_148 100000 0 (hsi (hsi (hsi r8.2 1262 52 (hi r8.2 1262 76)) 1262 53 (hi r8.2 1262 77)) 1262 80 (hi r8.2 1262 75))) else (Option.bind (f_m_back (hsi (hsi r8.2 1262 52 (hi r8.2 1262 76)) 1262 53 (hi r8.2 1262 77))) fun r12 => (some (0, r12.2))))) else (if ¬ x1 = 0 then (if 0 ≤ x3 ∧ x3 < nI 4000 then (b_m_load_99 K67 x1 x3 x3 (hi h 1308 (Int32.toNatClampNeg x3)) h) else none) else (if 0 ≤ x3 ∧ x3 < nI 4000 then (b_m_load_99 K67 x1 x3 x3 (hi h 1263 (Int32.toNatClampNeg x3)) h) else none)))
set_option maxRecDepth 20000 in
theorem ks_m_load_67 {l : Launch} {G : XG} {d : Nat} {K67 : Int32 → Int32 → XH → Option (Int32 × XH)} {x1 : Int32} {x3 : Int32} {h : XH} {r : Int32 × XH} (hK67 : ∀ (x1 : Int32) (x3 : Int32) (h : XH), LY h → K67 x1 x3 h = some r → XR l G xEX12_load (d + 202) (67, [some (.ref 1262), some (.int x1), none, some (.int x3), none], [], h) (fun C => ∃ v, xRet xEX12_load C v ∧ (C.2.2.2 = r.2 ∧ v = some (.int r.1)) ∧ LY r.2)) (L0 : LY h) (hf : s_m_load_67 K67 x1 x3 h = some r) : XR l G xEX12_load (d + 202) (67, [some (.ref 1262), some (.int x1), none, some (.int x3), none], [], h) (fun C => ∃ v, xRet xEX12_load C v ∧ (C.2.2.2 = r.2 ∧ v = some (.int r.1)) ∧ LY r.2) := by
  unfold s_m_load_67 at hf
  refine XS.go (s_iloadn rfl rfl rfl) ?_
  refine XS.go (s_aloadn rfl rfl rfl) ?_
  refine XS.go (s_getie rfl xf12_459 (LY.lt L0 (by decide)) (LY.k1262 L0) (by decide) rfl rfl) ?_
  refine r_icmp_ge (tgt := 106) rfl rfl (fun qc7 => ?_) (fun qc7 => ?_)
  · replace hf := xi_pos hf qc7
    refine XS.go (s_aloadn rfl rfl rfl) ?_
    replace hf := xb_some hf
    obtain ⟨r8, e9, hf⟩ := hf
    refine r_callv rfl xvX12_judge xm12_506 (kf_m_judge (d := d) L0 e9) (LY.lt L0 (by decide)) (LY.k1262 L0) (by decide) rfl rfl (dl (by decide)) (by decide) (Nat.le_of_ble_eq_true rfl) ?_
    rintro _ _ ⟨⟨rfl, rfl⟩, L10⟩
    refine XS.go (XS.lcl (L3 := [some (.ref 1262), some (.int x1), none, some (.int r8.1), none]) (s_istoren rfl rfl (Nat.le_of_ble_eq_true rfl)) rfl) ?_
    refine XS.go (s_aloadn rfl rfl rfl) ?_
    refine XS.go (s_aloadn rfl rfl rfl) ?_
    refine XS.go (s_getie rfl xf12_450 (LY.lt L10 (by decide)) (LY.k1262 L10) (by decide) rfl rfl) ?_
    refine XS.go (s_puti rfl xf12_363 (LY.lt L10 (by decide)) (LY.k1262 L10) (by decide) rfl (Or.inl rfl)) ?_
    refine XS.go (s_aloadn rfl rfl rfl) ?_
    refine XS.go (s_aloadn rfl rfl rfl) ?_
    refine XS.go (s_getie rfl xf12_453 (LY.lt (by simp only [LY_si, LY_sj]; exact L10) (by decide)) (LY.k1262 (by simp only [LY_si, LY_sj]; exact L10)) (by decide) rfl (hi_hsi_nk (by decide))) ?_
    refine XS.go (s_puti rfl xf12_366 (LY.lt (by simp only [LY_si, LY_sj]; exact L10) (by decide)) (LY.k1262 (by simp only [LY_si, LY_sj]; exact L10)) (by decide) rfl (Or.inl rfl)) ?_
    refine XS.go (s_iloadn rfl rfl rfl) ?_
    refine r_if_ne (tgt := 137) rfl rfl (fun qc11 => ?_) (fun qc11 => ?_)
    · replace hf := xi_pos hf qc11
      refine XS.go (s_aloadn rfl rfl rfl) ?_
      refine XS.go (s_aloadn rfl rfl rfl) ?_
      refine XS.go (s_getie rfl xf12_459 (LY.lt (by simp only [LY_si, LY_sj]; exact L10) (by decide)) (LY.k1262 (by simp only [LY_si, LY_sj]; exact L10)) (by decide) rfl ((hi_hsi_nk (by decide)).trans (hi_hsi_nk (by decide)))) ?_
      refine XS.go (s_puti rfl xf12_444 (LY.lt (by simp only [LY_si, LY_sj]; exact L10) (by decide)) (LY.k1262 (by simp only [LY_si, LY_sj]; exact L10)) (by decide) rfl (Or.inl rfl)) ?_
      refine XS.go (s_iconst (v := 0) rfl rfl) ?_
      refine XS.go (XS.lcl (L3 := [some (.ref 1262), some (.int x1), none, some (.int r8.1), some (.int 0)]) (s_istore rfl (Nat.le_of_ble_eq_true rfl)) rfl) ?_
      exact XR.forget (L2 := [some (.ref 1262), none, none, none, some (.int 0)]) ⟨rfl, ⟨rfl, trivial⟩⟩ (kb_m_load_148 (by simp only [LY_si, LY_sj]; exact L10) hf)
    · replace hf := xi_neg hf qc11
      refine XS.go (s_aloadn rfl rfl rfl) ?_
      replace hf := xb_some hf
      obtain ⟨r12, e13, hf⟩ := hf
      refine r_callv rfl xvX12_back xm12_509 (kf_m_back (d := d) (by simp only [LY_si, LY_sj]; exact L10) e13) (LY.lt (by simp only [LY_si, LY_sj]; exact L10) (by decide)) (LY.k1262 (by simp only [LY_si, LY_sj]; exact L10)) (by decide) rfl rfl (dl0 (by decide)) (by decide) (Nat.le_of_ble_eq_true rfl) ?_
      rintro _ _ ⟨⟨rfl, rfl⟩, L14⟩
      refine XS.go (s_iconst (v := 0) rfl rfl) ?_
      cases hf
      exact XR.retz rfl rfl (by decide) (fun hret => ⟨_, hret, ⟨rfl, rfl⟩, L14⟩)
  · replace hf := xi_neg hf qc7
    refine XS.go (s_aloadn rfl rfl rfl) ?_
    refine XS.go (s_getr rfl xf12_157 (LY.lt L0 (by decide)) (LY.k1262 L0) (by decide) rfl (LY.r1262_74 L0)) ?_
    refine XS.go (s_iloadn rfl rfl rfl) ?_
    refine XS.go (s_iloadn rfl rfl rfl) ?_
    refine r_if_ne (tgt := 93) rfl rfl (fun qc15 => ?_) (fun qc15 => ?_)
    · replace hf := xi_pos hf qc15
      refine XS.go (s_aloadn rfl rfl rfl) ?_
      refine XS.go (s_getr rfl xf12_151 (LY.lt L0 (by decide)) (LY.k1262 L0) (by decide) rfl (LY.r1262_71 L0)) ?_
      refine XS.go (s_iloadn rfl rfl rfl) ?_
      replace hf := xi_none hf
      obtain ⟨qk16, hf⟩ := hf
      refine XS.go (s_ialde rfl (LY.lt L0 (by decide)) (LY.k1308 L0) (inLit (LY.n1308 L0) qk16.1 qk16.2 (by decide)) rfl) ?_
      exact XR.forget (L2 := [some (.ref 1262), some (.int x1), none, some (.int x3), none]) ⟨rfl, ⟨rfl, ⟨rfl, trivial⟩⟩⟩ (kb_m_load_99 hK67 L0 hf)
    · replace hf := xi_neg hf qc15
      refine XS.go (s_aloadn rfl rfl rfl) ?_
      refine XS.go (s_getr rfl xf12_9 (LY.lt L0 (by decide)) (LY.k1262 L0) (by decide) rfl (LY.r1262_1 L0)) ?_
      refine XS.go (s_iloadn rfl rfl rfl) ?_
      replace hf := xi_none hf
      obtain ⟨qk17, hf⟩ := hf
      refine XS.go (s_ialde rfl (LY.lt L0 (by decide)) (LY.k1263 L0) (inLit (LY.n1263 L0) qk17.1 qk17.2 (by decide)) rfl) ?_
      refine XS.go (s_goto (tgt := 99) rfl rfl) ?_
      exact XR.forget (L2 := [some (.ref 1262), some (.int x1), none, some (.int x3), none]) ⟨rfl, ⟨rfl, ⟨rfl, trivial⟩⟩⟩ (kb_m_load_99 hK67 L0 hf)
def b_m_load_67 : Nat → Int32 → Int32 → XH → Option (Int32 × XH)
  | 0, _, _, _ => none
  | n + 1, x1, x3, h => s_m_load_67 (b_m_load_67 n) x1 x3 h
theorem kb_m_load_67 {l : Launch} {G : XG} {d : Nat} {n : Nat} {x1 : Int32} {x3 : Int32} {h : XH} {r : Int32 × XH} (L0 : LY h) (hf : b_m_load_67 n x1 x3 h = some r) : XR l G xEX12_load (d + 202) (67, [some (.ref 1262), some (.int x1), none, some (.int x3), none], [], h) (fun C => ∃ v, xRet xEX12_load C v ∧ (C.2.2.2 = r.2 ∧ v = some (.int r.1)) ∧ LY r.2) := by
  induction n generalizing x1 x3 h with
  | zero => cases hf
  | succ n ih => exact ks_m_load_67 (fun x1 x3 h L0 hf => ih (h := h) (x1 := x1) (x3 := x3) L0 hf) L0 hf
def b_m_load_46 (x1 : Int32) (x2 : Int32) (h : XH) : Option (Int32 × XH) := (if ¬ (hi h 1262 7) = 0 then (b_m_load_67 100000 x1 0 (hsi h 1262 75 x2)) else (some (0, (hsi h 1262 0 2))))
set_option maxRecDepth 20000 in
theorem kb_m_load_46 {l : Launch} {G : XG} {d : Nat} {x1 : Int32} {x2 : Int32} {h : XH} {r : Int32 × XH} (L0 : LY h) (hf : b_m_load_46 x1 x2 h = some r) : XR l G xEX12_load (d + 202) (46, [some (.ref 1262), some (.int x1), some (.int x2), none, none], [], h) (fun C => ∃ v, xRet xEX12_load C v ∧ (C.2.2.2 = r.2 ∧ v = some (.int r.1)) ∧ LY r.2) := by
  unfold b_m_load_46 at hf
  refine XS.go (s_aloadn rfl rfl rfl) ?_
  refine XS.go (s_getze rfl xf12_353 (LY.lt L0 (by decide)) (LY.k1262 L0) (by decide) rfl rfl) ?_
  refine r_if_ne (tgt := 60) rfl rfl (fun qc18 => ?_) (fun qc18 => ?_)
  · replace hf := xi_pos hf qc18
    refine XS.go (s_aloadn rfl rfl rfl) ?_
    refine XS.go (s_iloadn rfl rfl rfl) ?_
    refine XS.go (s_puti rfl xf12_459 (LY.lt L0 (by decide)) (LY.k1262 L0) (by decide) rfl (Or.inl rfl)) ?_
    refine XS.go (s_iconst (v := 0) rfl rfl) ?_
    refine XS.go (XS.lcl (L3 := [some (.ref 1262), some (.int x1), some (.int x2), some (.int 0), none]) (s_istoren rfl rfl (Nat.le_of_ble_eq_true rfl)) rfl) ?_
    exact XR.forget (L2 := [some (.ref 1262), some (.int x1), none, some (.int 0), none]) ⟨rfl, ⟨rfl, ⟨rfl, trivial⟩⟩⟩ (kb_m_load_67 (by simp only [LY_si, LY_sj]; exact L0) hf)
  · replace hf := xi_neg hf qc18
    refine XS.go (s_aloadn rfl rfl rfl) ?_
    refine XS.go (s_iconst (v := 2) rfl rfl) ?_
    refine XS.go (s_puti rfl xf12_175 (LY.lt L0 (by decide)) (LY.k1262 L0) (by decide) rfl (Or.inl rfl)) ?_
    refine XS.go (s_iconst (v := 0) rfl rfl) ?_
    cases hf
    exact XR.retz rfl rfl (by decide) (fun hret => ⟨_, hret, ⟨rfl, rfl⟩, (by simp only [LY_si, LY_sj]; exact L0)⟩)
def b_m_load_36 (x1 : Int32) (y0 : Int32) (h : XH) : Option (Int32 × XH) := (if ¬ x1 = 0 then (b_m_load_46 x1 y0 h) else (b_m_load_46 x1 y0 (hsi h 1262 2 0)))
set_option maxRecDepth 20000 in
theorem kb_m_load_36 {l : Launch} {G : XG} {d : Nat} {x1 : Int32} {y0 : Int32} {h : XH} {r : Int32 × XH} (L0 : LY h) (hf : b_m_load_36 x1 y0 h = some r) : XR l G xEX12_load (d + 202) (36, [some (.ref 1262), some (.int x1), none, none, none], [(.int y0)], h) (fun C => ∃ v, xRet xEX12_load C v ∧ (C.2.2.2 = r.2 ∧ v = some (.int r.1)) ∧ LY r.2) := by
  unfold b_m_load_36 at hf
  refine XS.go (XS.lcl (L3 := [some (.ref 1262), some (.int x1), some (.int y0), none, none]) (s_istoren rfl rfl (Nat.le_of_ble_eq_true rfl)) rfl) ?_
  refine XS.go (s_iloadn rfl rfl rfl) ?_
  refine r_if_ne (tgt := 46) rfl rfl (fun qc19 => ?_) (fun qc19 => ?_)
  · replace hf := xi_pos hf qc19
    exact XR.forget (L2 := [some (.ref 1262), some (.int x1), some (.int y0), none, none]) ⟨rfl, ⟨rfl, ⟨rfl, trivial⟩⟩⟩ (kb_m_load_46 L0 hf)
  · replace hf := xi_neg hf qc19
    refine XS.go (s_aloadn rfl rfl rfl) ?_
    refine XS.go (s_iconst (v := 0) rfl rfl) ?_
    refine XS.go (s_puti rfl xf12_178 (LY.lt L0 (by decide)) (LY.k1262 L0) (by decide) rfl (Or.inl rfl)) ?_
    exact XR.forget (L2 := [some (.ref 1262), some (.int x1), some (.int y0), none, none]) ⟨rfl, ⟨rfl, ⟨rfl, trivial⟩⟩⟩ (kb_m_load_46 (by simp only [LY_si, LY_sj]; exact L0) hf)
def b_m_load_21 (x1 : Int32) (h : XH) : Option (Int32 × XH) := (if ¬ x1 = 0 then (b_m_load_36 x1 (hi h 1262 72) h) else (b_m_load_36 x1 (hi h 1262 2) h))
set_option maxRecDepth 20000 in
theorem kb_m_load_21 {l : Launch} {G : XG} {d : Nat} {x1 : Int32} {h : XH} {r : Int32 × XH} (L0 : LY h) (hf : b_m_load_21 x1 h = some r) : XR l G xEX12_load (d + 202) (21, [some (.ref 1262), some (.int x1), none, none, none], [], h) (fun C => ∃ v, xRet xEX12_load C v ∧ (C.2.2.2 = r.2 ∧ v = some (.int r.1)) ∧ LY r.2) := by
  unfold b_m_load_21 at hf
  refine XS.go (s_iloadn rfl rfl rfl) ?_
  refine r_if_ne (tgt := 32) rfl rfl (fun qc20 => ?_) (fun qc20 => ?_)
  · replace hf := xi_pos hf qc20
    refine XS.go (s_aloadn rfl rfl rfl) ?_
    refine XS.go (s_getie rfl xf12_441 (LY.lt L0 (by decide)) (LY.k1262 L0) (by decide) rfl rfl) ?_
    exact XR.forget (L2 := [some (.ref 1262), some (.int x1), none, none, none]) ⟨rfl, ⟨rfl, trivial⟩⟩ (kb_m_load_36 L0 hf)
  · replace hf := xi_neg hf qc20
    refine XS.go (s_aloadn rfl rfl rfl) ?_
    refine XS.go (s_getie rfl xf12_178 (LY.lt L0 (by decide)) (LY.k1262 L0) (by decide) rfl rfl) ?_
    refine XS.go (s_goto (tgt := 36) rfl rfl) ?_
    exact XR.forget (L2 := [some (.ref 1262), some (.int x1), none, none, none]) ⟨rfl, ⟨rfl, trivial⟩⟩ (kb_m_load_36 L0 hf)
def f_m_load (a0 : Int32) (h : XH) : Option (Int32 × XH) := (if a0 = 0 then (b_m_load_21 a0 (hsi h 1262 0 0)) else (if a0 = 1 then (b_m_load_21 a0 (hsi h 1262 0 0)) else (some (0, (hsi (hsi h 1262 0 0) 1262 0 1)))))
set_option maxRecDepth 20000 in
theorem kf_m_load {l : Launch} {G : XG} {d : Nat} {a0 : Int32} {h : XH} {r : Int32 × XH} (L0 : LY h) (hf : f_m_load a0 h = some r) : XC l G xEX12_load (d + 202) [.ref 1262, .int a0] h (fun v h2 => (h2 = r.2 ∧ v = some (.int r.1)) ∧ LY r.2) := by
  refine XC.virt xvX12_load (Nat.le_of_ble_eq_true rfl) ?_
  unfold f_m_load at hf
  refine XR.norm (L3 := [some (.ref 1262), some (.int a0), none, none, none]) rfl ?_
  refine XS.go (s_aloadn rfl rfl rfl) ?_
  refine XS.go (s_iconst (v := 0) rfl rfl) ?_
  refine XS.go (s_puti rfl xf12_175 (LY.lt L0 (by decide)) (LY.k1262 L0) (by decide) rfl (Or.inl rfl)) ?_
  refine XS.go (s_iloadn rfl rfl rfl) ?_
  refine r_if_eq (tgt := 21) rfl rfl (fun qc21 => ?_) (fun qc21 => ?_)
  · replace hf := xi_pos hf qc21
    exact XR.forget (L2 := [some (.ref 1262), some (.int a0), none, none, none]) ⟨rfl, ⟨rfl, trivial⟩⟩ (kb_m_load_21 (by simp only [LY_si, LY_sj]; exact L0) hf)
  · replace hf := xi_neg hf qc21
    refine XS.go (s_iloadn rfl rfl rfl) ?_
    refine XS.go (s_iconst (v := 1) rfl rfl) ?_
    refine r_icmp_eq (tgt := 21) rfl rfl (fun qc22 => ?_) (fun qc22 => ?_)
    · replace hf := xi_pos hf qc22
      exact XR.forget (L2 := [some (.ref 1262), some (.int a0), none, none, none]) ⟨rfl, ⟨rfl, trivial⟩⟩ (kb_m_load_21 (by simp only [LY_si, LY_sj]; exact L0) hf)
    · replace hf := xi_neg hf qc22
      refine XS.go (s_aloadn rfl rfl rfl) ?_
      refine XS.go (s_iconst (v := 1) rfl rfl) ?_
      refine XS.go (s_puti rfl xf12_175 (LY.lt (by simp only [LY_si, LY_sj]; exact L0) (by decide)) (LY.k1262 (by simp only [LY_si, LY_sj]; exact L0)) (by decide) rfl (Or.inl rfl)) ?_
      refine XS.go (s_iconst (v := 0) rfl rfl) ?_
      cases hf
      exact XR.retz rfl rfl (by decide) (fun hret => ⟨_, hret, ⟨rfl, rfl⟩, (by simp only [LY_si, LY_sj]; exact L0)⟩)
def f_m_sort (h : XH) : Option (Int32 × XH) := (if 0 ≤ ((hi h 1262 87) - 1) ∧ ((hi h 1262 87) - 1) < nI 100 then (some ((hi h 1312 (Int32.toNatClampNeg ((hi h 1262 87) - 1))), h)) else none)
set_option maxRecDepth 20000 in
theorem kf_m_sort {l : Launch} {G : XG} {d : Nat} {h : XH} {r : Int32 × XH} (L0 : LY h) (hf : f_m_sort h = some r) : XC l G xEX12_sort d [.ref 1262] h (fun v h2 => (h2 = r.2 ∧ v = some (.int r.1)) ∧ LY r.2) := by
  refine XC.virt xvX12_sort (Nat.le_of_ble_eq_true rfl) ?_
  unfold f_m_sort at hf
  refine XR.norm (L3 := [some (.ref 1262)]) rfl ?_
  refine XS.go (s_aloadn rfl rfl rfl) ?_
  refine XS.go (s_getr rfl xf12_163 (LY.lt L0 (by decide)) (LY.k1262 L0) (by decide) rfl (LY.r1262_83 L0)) ?_
  refine XS.go (s_aloadn rfl rfl rfl) ?_
  refine XS.go (s_getie rfl xf12_500 (LY.lt L0 (by decide)) (LY.k1262 L0) (by decide) rfl rfl) ?_
  refine XS.go (s_iconst (v := 1) rfl rfl) ?_
  refine XS.go (s_isub rfl) ?_
  replace hf := xi_none hf
  obtain ⟨qk1, hf⟩ := hf
  refine XS.go (s_ialde rfl (LY.lt L0 (by decide)) (LY.k1312 L0) (inLit (LY.n1312 L0) qk1.1 qk1.2 (by decide)) rfl) ?_
  cases hf
  exact XR.reti rfl rfl (fun hret => ⟨_, hret, ⟨rfl, rfl⟩, L0⟩)
def f_m_of (h : XH) : Option (Int32 × XH) := (if 0 ≤ ((hi h 1262 87) - 1) ∧ ((hi h 1262 87) - 1) < nI 100 then (some ((hi h 1313 (Int32.toNatClampNeg ((hi h 1262 87) - 1))), h)) else none)
set_option maxRecDepth 20000 in
theorem kf_m_of {l : Launch} {G : XG} {d : Nat} {h : XH} {r : Int32 × XH} (L0 : LY h) (hf : f_m_of h = some r) : XC l G xEX12_of d [.ref 1262] h (fun v h2 => (h2 = r.2 ∧ v = some (.int r.1)) ∧ LY r.2) := by
  refine XC.virt xvX12_of (Nat.le_of_ble_eq_true rfl) ?_
  unfold f_m_of at hf
  refine XR.norm (L3 := [some (.ref 1262)]) rfl ?_
  refine XS.go (s_aloadn rfl rfl rfl) ?_
  refine XS.go (s_getr rfl xf12_166 (LY.lt L0 (by decide)) (LY.k1262 L0) (by decide) rfl (LY.r1262_84 L0)) ?_
  refine XS.go (s_aloadn rfl rfl rfl) ?_
  refine XS.go (s_getie rfl xf12_500 (LY.lt L0 (by decide)) (LY.k1262 L0) (by decide) rfl rfl) ?_
  refine XS.go (s_iconst (v := 1) rfl rfl) ?_
  refine XS.go (s_isub rfl) ?_
  replace hf := xi_none hf
  obtain ⟨qk1, hf⟩ := hf
  refine XS.go (s_ialde rfl (LY.lt L0 (by decide)) (LY.k1313 L0) (inLit (LY.n1313 L0) qk1.1 qk1.2 (by decide)) rfl) ?_
  cases hf
  exact XR.reti rfl rfl (fun hret => ⟨_, hret, ⟨rfl, rfl⟩, L0⟩)
def f_m_place (h : XH) : Option (Int32 × XH) := (if 0 ≤ ((hi h 1262 87) - 1) ∧ ((hi h 1262 87) - 1) < nI 100 then (some ((hi h 1315 (Int32.toNatClampNeg ((hi h 1262 87) - 1))), h)) else none)
set_option maxRecDepth 20000 in
theorem kf_m_place {l : Launch} {G : XG} {d : Nat} {h : XH} {r : Int32 × XH} (L0 : LY h) (hf : f_m_place h = some r) : XC l G xEX12_place d [.ref 1262] h (fun v h2 => (h2 = r.2 ∧ v = some (.int r.1)) ∧ LY r.2) := by
  refine XC.virt xvX12_place (Nat.le_of_ble_eq_true rfl) ?_
  unfold f_m_place at hf
  refine XR.norm (L3 := [some (.ref 1262)]) rfl ?_
  refine XS.go (s_aloadn rfl rfl rfl) ?_
  refine XS.go (s_getr rfl xf12_172 (LY.lt L0 (by decide)) (LY.k1262 L0) (by decide) rfl (LY.r1262_86 L0)) ?_
  refine XS.go (s_aloadn rfl rfl rfl) ?_
  refine XS.go (s_getie rfl xf12_500 (LY.lt L0 (by decide)) (LY.k1262 L0) (by decide) rfl rfl) ?_
  refine XS.go (s_iconst (v := 1) rfl rfl) ?_
  refine XS.go (s_isub rfl) ?_
  replace hf := xi_none hf
  obtain ⟨qk1, hf⟩ := hf
  refine XS.go (s_ialde rfl (LY.lt L0 (by decide)) (LY.k1315 L0) (inLit (LY.n1315 L0) qk1.1 qk1.2 (by decide)) rfl) ?_
  cases hf
  exact XR.reti rfl rfl (fun hret => ⟨_, hret, ⟨rfl, rfl⟩, L0⟩)
def f_m_parts (h : XH) : Option (Int32 × XH) := (Option.bind (f_m_sort h) fun r1 => (if r1.1 = 2 then (Option.bind (f_m_of r1.2) fun r5 => (if 0 ≤ r5.1 ∧ r5.1 < nI 12 then (some ((hi r5.2 1273 (Int32.toNatClampNeg r5.1)), r5.2)) else none)) else (if r1.1 = 3 then (Option.bind (f_m_of r1.2) fun r9 => (if 0 ≤ r9.1 ∧ r9.1 < nI 16 then (some ((hi r9.2 1283 (Int32.toNatClampNeg r9.1)), r9.2)) else none)) else (Option.bind (f_m_place r1.2) fun r13 => (Option.bind (f_m_number r13.1 4 r13.2) fun r16 => (some ((Int64.toInt32 r16.1), r16.2)))))))
set_option maxRecDepth 20000 in
theorem kf_m_parts {l : Launch} {G : XG} {d : Nat} {h : XH} {r : Int32 × XH} (L0 : LY h) (hf : f_m_parts h = some r) : XC l G xEX12_parts (d + 1) [.ref 1262] h (fun v h2 => (h2 = r.2 ∧ v = some (.int r.1)) ∧ LY r.2) := by
  refine XC.virt xvX12_parts (Nat.le_of_ble_eq_true rfl) ?_
  unfold f_m_parts at hf
  refine XR.norm (L3 := [some (.ref 1262)]) rfl ?_
  refine XS.go (s_aloadn rfl rfl rfl) ?_
  replace hf := xb_some hf
  obtain ⟨r1, e2, hf⟩ := hf
  refine r_callv rfl xvX12_sort xm12_515 (kf_m_sort (d := d) L0 e2) (LY.lt L0 (by decide)) (LY.k1262 L0) (by decide) rfl rfl (dl0 (by decide)) (by decide) (Nat.le_of_ble_eq_true rfl) ?_
  rintro _ _ ⟨⟨rfl, rfl⟩, L3⟩
  by_cases qs4_0 : r1.1 = 2
  · replace hf := xi_pos hf qs4_0
    refine XS.go (s_lsw (off := 38) (tgt := 42) rfl (by decide) (by rw [qs4_0]; rfl) rfl) ?_
    refine XS.go (s_aloadn rfl rfl rfl) ?_
    refine XS.go (s_getr rfl xf12_40 (LY.lt L3 (by decide)) (LY.k1262 L3) (by decide) rfl (LY.r1262_21 L3)) ?_
    refine XS.go (s_aloadn rfl rfl rfl) ?_
    replace hf := xb_some hf
    obtain ⟨r5, e6, hf⟩ := hf
    refine r_callv rfl xvX12_of xm12_518 (kf_m_of (d := d) L3 e6) (LY.lt L3 (by decide)) (LY.k1262 L3) (by decide) rfl rfl (dl0 (by decide)) (by decide) (Nat.le_of_ble_eq_true rfl) ?_
    rintro _ _ ⟨⟨rfl, rfl⟩, L7⟩
    replace hf := xi_none hf
    obtain ⟨qk8, hf⟩ := hf
    refine XS.go (s_ialde rfl (LY.lt L7 (by decide)) (LY.k1273 L7) (inLit (LY.n1273 L7) qk8.1 qk8.2 (by decide)) rfl) ?_
    cases hf
    exact XR.reti rfl rfl (fun hret => ⟨_, hret, ⟨rfl, rfl⟩, L7⟩)
  replace hf := xi_neg hf qs4_0
  by_cases qs4_1 : r1.1 = 3
  · replace hf := xi_pos hf qs4_1
    refine XS.go (s_lsw (off := 28) (tgt := 32) rfl (by decide) (by rw [qs4_1]; rfl) rfl) ?_
    refine XS.go (s_aloadn rfl rfl rfl) ?_
    refine XS.go (s_getr rfl xf12_70 (LY.lt L3 (by decide)) (LY.k1262 L3) (by decide) rfl (LY.r1262_32 L3)) ?_
    refine XS.go (s_aloadn rfl rfl rfl) ?_
    replace hf := xb_some hf
    obtain ⟨r9, e10, hf⟩ := hf
    refine r_callv rfl xvX12_of xm12_518 (kf_m_of (d := d) L3 e10) (LY.lt L3 (by decide)) (LY.k1262 L3) (by decide) rfl rfl (dl0 (by decide)) (by decide) (Nat.le_of_ble_eq_true rfl) ?_
    rintro _ _ ⟨⟨rfl, rfl⟩, L11⟩
    replace hf := xi_none hf
    obtain ⟨qk12, hf⟩ := hf
    refine XS.go (s_ialde rfl (LY.lt L11 (by decide)) (LY.k1283 L11) (inLit (LY.n1283 L11) qk12.1 qk12.2 (by decide)) rfl) ?_
    cases hf
    exact XR.reti rfl rfl (fun hret => ⟨_, hret, ⟨rfl, rfl⟩, L11⟩)
  replace hf := xi_neg hf qs4_1
  have qs4_z0 : ¬ (r1.1).toInt = 2 := fun z => qs4_0 (Int32.toInt_inj.mp z)
  have qs4_z1 : ¬ (r1.1).toInt = 3 := fun z => qs4_1 (Int32.toInt_inj.mp z)
  refine XS.go (s_lsw (off := 48) (tgt := 52) rfl (by decide) (show (if (2 : Int) = (r1.1).toInt then (38 : Int) else if (3 : Int) = (r1.1).toInt then (28 : Int) else 48) = (48 : Int) from (if_neg (fun w => qs4_z0 w.symm)).trans (if_neg (fun w => qs4_z1 w.symm))) rfl) ?_
  refine XS.go (s_aloadn rfl rfl rfl) ?_
  refine XS.go (s_aloadn rfl rfl rfl) ?_
  replace hf := xb_some hf
  obtain ⟨r13, e14, hf⟩ := hf
  refine r_callv rfl xvX12_place xm12_521 (kf_m_place (d := d) L3 e14) (LY.lt L3 (by decide)) (LY.k1262 L3) (by decide) rfl rfl (dl0 (by decide)) (by decide) (Nat.le_of_ble_eq_true rfl) ?_
  rintro _ _ ⟨⟨rfl, rfl⟩, L15⟩
  refine XS.go (s_iconst (v := 4) rfl rfl) ?_
  replace hf := xb_some hf
  obtain ⟨r16, e17, hf⟩ := hf
  refine r_callv rfl xvX12_number xm12_467 (kf_m_number (d := d) L15 e17) (LY.lt L15 (by decide)) (LY.k1262 L15) (by decide) rfl rfl (dl0 (by decide)) (by decide) (Nat.le_of_ble_eq_true rfl) ?_
  rintro _ _ ⟨⟨rfl, rfl⟩, L18⟩
  refine XS.go (s_l2i rfl) ?_
  cases hf
  exact XR.reti rfl rfl (fun hret => ⟨_, hret, ⟨rfl, rfl⟩, L18⟩)
def f_m_told (a0 : Int32) (h : XH) : Option (Int32 × XH) := (if ¬ a0 = 3 then (if ¬ a0 = 2 then (if ¬ a0 = 5 then (some (4, h)) else (some (3, h))) else (some (2, h))) else (some (1, h)))
set_option maxRecDepth 20000 in
theorem kf_m_told {l : Launch} {G : XG} {d : Nat} {a0 : Int32} {h : XH} {r : Int32 × XH} (L0 : LY h) (hf : f_m_told a0 h = some r) : XC l G xEX12_told d [.int a0] h (fun v h2 => (h2 = r.2 ∧ v = some (.int r.1)) ∧ LY r.2) := by
  refine XC.stat xsX12_told (Nat.le_of_ble_eq_true rfl) ?_
  unfold f_m_told at hf
  refine XR.norm (L3 := [some (.int a0)]) rfl ?_
  refine XS.go (s_iloadn rfl rfl rfl) ?_
  refine XS.go (s_iconst (v := 3) rfl rfl) ?_
  refine r_icmp_ne (tgt := 9) rfl rfl (fun qc1 => ?_) (fun qc1 => ?_)
  · replace hf := xi_pos hf qc1
    refine XS.go (s_iloadn rfl rfl rfl) ?_
    refine XS.go (s_iconst (v := 2) rfl rfl) ?_
    refine r_icmp_ne (tgt := 18) rfl rfl (fun qc2 => ?_) (fun qc2 => ?_)
    · replace hf := xi_pos hf qc2
      refine XS.go (s_iloadn rfl rfl rfl) ?_
      refine XS.go (s_iconst (v := 5) rfl rfl) ?_
      refine r_icmp_ne (tgt := 27) rfl rfl (fun qc3 => ?_) (fun qc3 => ?_)
      · replace hf := xi_pos hf qc3
        refine XS.go (s_iconst (v := 4) rfl rfl) ?_
        cases hf
        exact XR.reti rfl rfl (fun hret => ⟨_, hret, ⟨rfl, rfl⟩, L0⟩)
      · replace hf := xi_neg hf qc3
        refine XS.go (s_iconst (v := 3) rfl rfl) ?_
        refine XS.go (s_goto (tgt := 28) rfl rfl) ?_
        cases hf
        exact XR.reti rfl rfl (fun hret => ⟨_, hret, ⟨rfl, rfl⟩, L0⟩)
    · replace hf := xi_neg hf qc2
      refine XS.go (s_iconst (v := 2) rfl rfl) ?_
      refine XS.go (s_goto (tgt := 28) rfl rfl) ?_
      cases hf
      exact XR.reti rfl rfl (fun hret => ⟨_, hret, ⟨rfl, rfl⟩, L0⟩)
  · replace hf := xi_neg hf qc1
    refine XS.go (s_iconst (v := 1) rfl rfl) ?_
    refine XS.go (s_goto (tgt := 28) rfl rfl) ?_
    cases hf
    exact XR.reti rfl rfl (fun hret => ⟨_, hret, ⟨rfl, rfl⟩, L0⟩)
def f_m_node (a0 : Int32) (h : XH) : Option (Int32 × XH) := (if ¬ (hi h 1262 81) = 0 then (if a0 = 0 then (Option.bind (f_m_sort (hsi h 1262 0 0)) fun r3 => (Option.bind (f_m_told r3.1 r3.2) fun r6 => (some (r6.1, r6.2)))) else (if a0 = 1 then (Option.bind (f_m_of (hsi h 1262 0 0)) fun r9 => (some (r9.1, r9.2))) else (if a0 = 2 then (Option.bind (f_m_place (hsi h 1262 0 0)) fun r12 => (some (r12.1, r12.2))) else (if a0 = 3 then (Option.bind (f_m_parts (hsi h 1262 0 0)) fun r15 => (some (r15.1, r15.2))) else (if a0 = 4 then (some (((hi h 1262 87) - 1), (hsi h 1262 0 0))) else (some ((-1), (hsi h 1262 0 0)))))))) else (some ((-1), (hsi h 1262 0 0))))
set_option maxRecDepth 20000 in
theorem kf_m_node {l : Launch} {G : XG} {d : Nat} {a0 : Int32} {h : XH} {r : Int32 × XH} (L0 : LY h) (hf : f_m_node a0 h = some r) : XC l G xEX12_node (d + 2) [.ref 1262, .int a0] h (fun v h2 => (h2 = r.2 ∧ v = some (.int r.1)) ∧ LY r.2) := by
  refine XC.virt xvX12_node (Nat.le_of_ble_eq_true rfl) ?_
  unfold f_m_node at hf
  refine XR.norm (L3 := [some (.ref 1262), some (.int a0)]) rfl ?_
  refine XS.go (s_aloadn rfl rfl rfl) ?_
  refine XS.go (s_iconst (v := 0) rfl rfl) ?_
  refine XS.go (s_puti rfl xf12_175 (LY.lt L0 (by decide)) (LY.k1262 L0) (by decide) rfl (Or.inl rfl)) ?_
  refine XS.go (s_aloadn rfl rfl rfl) ?_
  refine XS.go (s_getze rfl xf12_360 (LY.lt (by simp only [LY_si, LY_sj]; exact L0) (by decide)) (LY.k1262 (by simp only [LY_si, LY_sj]; exact L0)) (by decide) rfl (hi_hsi_nk (by decide))) ?_
  refine r_if_ne (tgt := 14) rfl rfl (fun qc1 => ?_) (fun qc1 => ?_)
  · replace hf := xi_pos hf qc1
    refine XS.go (s_iloadn rfl rfl rfl) ?_
    by_cases qs2_0 : a0 = 0
    · replace hf := xi_pos hf qs2_0
      refine XS.go (s_tswI (tgt := 48) rfl (by rw [qs2_0]; decide) (by rw [qs2_0]; decide) (by rw [qs2_0]; rfl) rfl) ?_
      refine XS.go (s_aloadn rfl rfl rfl) ?_
      replace hf := xb_some hf
      obtain ⟨r3, e4, hf⟩ := hf
      refine r_callv rfl xvX12_sort xm12_515 (kf_m_sort (d := d) (by simp only [LY_si, LY_sj]; exact L0) e4) (LY.lt (by simp only [LY_si, LY_sj]; exact L0) (by decide)) (LY.k1262 (by simp only [LY_si, LY_sj]; exact L0)) (by decide) rfl rfl (dl0 (by decide)) (by decide) (Nat.le_of_ble_eq_true rfl) ?_
      rintro _ _ ⟨⟨rfl, rfl⟩, L5⟩
      replace hf := xb_some hf
      obtain ⟨r6, e7, hf⟩ := hf
      refine r_calls rfl xsX12_told xm12_524 (kf_m_told (d := d) L5 e7) rfl rfl (dl0 (by decide)) (by decide) (Nat.le_of_ble_eq_true rfl) ?_
      rintro _ _ ⟨⟨rfl, rfl⟩, L8⟩
      cases hf
      exact XR.reti rfl rfl (fun hret => ⟨_, hret, ⟨rfl, rfl⟩, L8⟩)
    replace hf := xi_neg hf qs2_0
    by_cases qs2_1 : a0 = 1
    · replace hf := xi_pos hf qs2_1
      refine XS.go (s_tswI (tgt := 56) rfl (by rw [qs2_1]; decide) (by rw [qs2_1]; decide) (by rw [qs2_1]; rfl) rfl) ?_
      refine XS.go (s_aloadn rfl rfl rfl) ?_
      replace hf := xb_some hf
      obtain ⟨r9, e10, hf⟩ := hf
      refine r_callv rfl xvX12_of xm12_518 (kf_m_of (d := d) (by simp only [LY_si, LY_sj]; exact L0) e10) (LY.lt (by simp only [LY_si, LY_sj]; exact L0) (by decide)) (LY.k1262 (by simp only [LY_si, LY_sj]; exact L0)) (by decide) rfl rfl (dl0 (by decide)) (by decide) (Nat.le_of_ble_eq_true rfl) ?_
      rintro _ _ ⟨⟨rfl, rfl⟩, L11⟩
      cases hf
      exact XR.reti rfl rfl (fun hret => ⟨_, hret, ⟨rfl, rfl⟩, L11⟩)
    replace hf := xi_neg hf qs2_1
    by_cases qs2_2 : a0 = 2
    · replace hf := xi_pos hf qs2_2
      refine XS.go (s_tswI (tgt := 61) rfl (by rw [qs2_2]; decide) (by rw [qs2_2]; decide) (by rw [qs2_2]; rfl) rfl) ?_
      refine XS.go (s_aloadn rfl rfl rfl) ?_
      replace hf := xb_some hf
      obtain ⟨r12, e13, hf⟩ := hf
      refine r_callv rfl xvX12_place xm12_521 (kf_m_place (d := d) (by simp only [LY_si, LY_sj]; exact L0) e13) (LY.lt (by simp only [LY_si, LY_sj]; exact L0) (by decide)) (LY.k1262 (by simp only [LY_si, LY_sj]; exact L0)) (by decide) rfl rfl (dl0 (by decide)) (by decide) (Nat.le_of_ble_eq_true rfl) ?_
      rintro _ _ ⟨⟨rfl, rfl⟩, L14⟩
      cases hf
      exact XR.reti rfl rfl (fun hret => ⟨_, hret, ⟨rfl, rfl⟩, L14⟩)
    replace hf := xi_neg hf qs2_2
    by_cases qs2_3 : a0 = 3
    · replace hf := xi_pos hf qs2_3
      refine XS.go (s_tswI (tgt := 66) rfl (by rw [qs2_3]; decide) (by rw [qs2_3]; decide) (by rw [qs2_3]; rfl) rfl) ?_
      refine XS.go (s_aloadn rfl rfl rfl) ?_
      replace hf := xb_some hf
      obtain ⟨r15, e16, hf⟩ := hf
      refine r_callv rfl xvX12_parts xm12_527 (kf_m_parts (d := d) (by simp only [LY_si, LY_sj]; exact L0) e16) (LY.lt (by simp only [LY_si, LY_sj]; exact L0) (by decide)) (LY.k1262 (by simp only [LY_si, LY_sj]; exact L0)) (by decide) rfl rfl (dl (by decide)) (by decide) (Nat.le_of_ble_eq_true rfl) ?_
      rintro _ _ ⟨⟨rfl, rfl⟩, L17⟩
      cases hf
      exact XR.reti rfl rfl (fun hret => ⟨_, hret, ⟨rfl, rfl⟩, L17⟩)
    replace hf := xi_neg hf qs2_3
    by_cases qs2_4 : a0 = 4
    · replace hf := xi_pos hf qs2_4
      refine XS.go (s_tswI (tgt := 71) rfl (by rw [qs2_4]; decide) (by rw [qs2_4]; decide) (by rw [qs2_4]; rfl) rfl) ?_
      refine XS.go (s_aloadn rfl rfl rfl) ?_
      refine XS.go (s_getie rfl xf12_500 (LY.lt (by simp only [LY_si, LY_sj]; exact L0) (by decide)) (LY.k1262 (by simp only [LY_si, LY_sj]; exact L0)) (by decide) rfl (hi_hsi_nk (by decide))) ?_
      refine XS.go (s_iconst (v := 1) rfl rfl) ?_
      refine XS.go (s_isub rfl) ?_
      cases hf
      exact XR.reti rfl rfl (fun hret => ⟨_, hret, ⟨rfl, rfl⟩, (by simp only [LY_si, LY_sj]; exact L0)⟩)
    replace hf := xi_neg hf qs2_4
    have qs2_o : (a0).toInt < 0 ∨ 4 < (a0).toInt := by
      refine tsw_out 0 4 (by decide) ?_
      intro k h1 h2
      have z : k = 0 ∨ k = 1 ∨ k = 2 ∨ k = 3 ∨ k = 4 := by omega
      rcases z with rfl | rfl | rfl | rfl | rfl
      · exact qs2_0
      · exact qs2_1
      · exact qs2_2
      · exact qs2_3
      · exact qs2_4
    refine XS.go (s_tswO (tgt := 78) rfl qs2_o rfl) ?_
    refine XS.go (s_iconst (v := (-1)) rfl rfl) ?_
    cases hf
    exact XR.reti rfl rfl (fun hret => ⟨_, hret, ⟨rfl, rfl⟩, (by simp only [LY_si, LY_sj]; exact L0)⟩)
  · replace hf := xi_neg hf qc1
    refine XS.go (s_iconst (v := (-1)) rfl rfl) ?_
    cases hf
    exact XR.reti rfl rfl (fun hret => ⟨_, hret, ⟨rfl, rfl⟩, (by simp only [LY_si, LY_sj]; exact L0)⟩)
def f_m_isPart (a0 : Int32) (h : XH) : Option (Int32 × XH) := (if (hi h 1262 81) = 0 then (some (0, h)) else (if a0 < 0 then (some (0, h)) else (Option.bind (f_m_parts h) fun r3 => (if r3.1 ≤ a0 then (some (0, r3.2)) else (some (1, r3.2))))))
set_option maxRecDepth 20000 in
theorem kf_m_isPart {l : Launch} {G : XG} {d : Nat} {a0 : Int32} {h : XH} {r : Int32 × XH} (L0 : LY h) (hf : f_m_isPart a0 h = some r) : XC l G xEX12_isPart (d + 2) [.ref 1262, .int a0] h (fun v h2 => (h2 = r.2 ∧ v = some (.int r.1)) ∧ LY r.2) := by
  refine XC.virt xvX12_isPart (Nat.le_of_ble_eq_true rfl) ?_
  unfold f_m_isPart at hf
  refine XR.norm (L3 := [some (.ref 1262), some (.int a0)]) rfl ?_
  refine XS.go (s_aloadn rfl rfl rfl) ?_
  refine XS.go (s_getze rfl xf12_360 (LY.lt L0 (by decide)) (LY.k1262 L0) (by decide) rfl rfl) ?_
  refine r_if_eq (tgt := 23) rfl rfl (fun qc1 => ?_) (fun qc1 => ?_)
  · replace hf := xi_pos hf qc1
    refine XS.go (s_iconst (v := 0) rfl rfl) ?_
    cases hf
    exact XR.retz rfl rfl (by decide) (fun hret => ⟨_, hret, ⟨rfl, rfl⟩, L0⟩)
  · replace hf := xi_neg hf qc1
    refine XS.go (s_iloadn rfl rfl rfl) ?_
    refine r_if_lt (tgt := 23) rfl rfl (fun qc2 => ?_) (fun qc2 => ?_)
    · replace hf := xi_pos hf qc2
      refine XS.go (s_iconst (v := 0) rfl rfl) ?_
      cases hf
      exact XR.retz rfl rfl (by decide) (fun hret => ⟨_, hret, ⟨rfl, rfl⟩, L0⟩)
    · replace hf := xi_neg hf qc2
      refine XS.go (s_iloadn rfl rfl rfl) ?_
      refine XS.go (s_aloadn rfl rfl rfl) ?_
      replace hf := xb_some hf
      obtain ⟨r3, e4, hf⟩ := hf
      refine r_callv rfl xvX12_parts xm12_527 (kf_m_parts (d := d) L0 e4) (LY.lt L0 (by decide)) (LY.k1262 L0) (by decide) rfl rfl (dl (by decide)) (by decide) (Nat.le_of_ble_eq_true rfl) ?_
      rintro _ _ ⟨⟨rfl, rfl⟩, L5⟩
      refine r_icmp_ge (tgt := 23) rfl rfl (fun qc6 => ?_) (fun qc6 => ?_)
      · replace hf := xi_pos hf qc6
        refine XS.go (s_iconst (v := 0) rfl rfl) ?_
        cases hf
        exact XR.retz rfl rfl (by decide) (fun hret => ⟨_, hret, ⟨rfl, rfl⟩, L5⟩)
      · replace hf := xi_neg hf qc6
        refine XS.go (s_iconst (v := 1) rfl rfl) ?_
        refine XS.go (s_goto (tgt := 24) rfl rfl) ?_
        cases hf
        exact XR.retz rfl rfl (by decide) (fun hret => ⟨_, hret, ⟨rfl, rfl⟩, L5⟩)
def f_m_list (a0 : Int32) (h : XH) : Option (Int32 × XH) := (Option.bind (f_m_number a0 4 h) fun r1 => (some ((a0 - (Int64.toInt32 r1.1)), r1.2)))
set_option maxRecDepth 20000 in
theorem kf_m_list {l : Launch} {G : XG} {d : Nat} {a0 : Int32} {h : XH} {r : Int32 × XH} (L0 : LY h) (hf : f_m_list a0 h = some r) : XC l G xEX12_list (d + 1) [.ref 1262, .int a0] h (fun v h2 => (h2 = r.2 ∧ v = some (.int r.1)) ∧ LY r.2) := by
  refine XC.virt xvX12_list (Nat.le_of_ble_eq_true rfl) ?_
  unfold f_m_list at hf
  refine XR.norm (L3 := [some (.ref 1262), some (.int a0)]) rfl ?_
  refine XS.go (s_iloadn rfl rfl rfl) ?_
  refine XS.go (s_aloadn rfl rfl rfl) ?_
  refine XS.go (s_iloadn rfl rfl rfl) ?_
  refine XS.go (s_iconst (v := 4) rfl rfl) ?_
  replace hf := xb_some hf
  obtain ⟨r1, e2, hf⟩ := hf
  refine r_callv rfl xvX12_number xm12_467 (kf_m_number (d := d) L0 e2) (LY.lt L0 (by decide)) (LY.k1262 L0) (by decide) rfl rfl (dl0 (by decide)) (by decide) (Nat.le_of_ble_eq_true rfl) ?_
  rintro _ _ ⟨⟨rfl, rfl⟩, L3⟩
  refine XS.go (s_l2i rfl) ?_
  refine XS.go (s_isub rfl) ?_
  cases hf
  exact XR.reti rfl rfl (fun hret => ⟨_, hret, ⟨rfl, rfl⟩, L3⟩)
def f_m_stored (a0 : Int32) (h : XH) : Option (Int32 × XH) := (Option.bind (f_m_place h) fun r1 => (Option.bind (f_m_list r1.1 r1.2) fun r4 => (Option.bind (f_m_far r4.1 a0 r4.2) fun r7 => (if ¬ r7.1 = 0 then (some ((r1.1 + r7.1), r7.2)) else (some ((-1), r7.2))))))
set_option maxRecDepth 20000 in
theorem kf_m_stored {l : Launch} {G : XG} {d : Nat} {a0 : Int32} {h : XH} {r : Int32 × XH} (L0 : LY h) (hf : f_m_stored a0 h = some r) : XC l G xEX12_stored (d + 2) [.ref 1262, .int a0] h (fun v h2 => (h2 = r.2 ∧ v = some (.int r.1)) ∧ LY r.2) := by
  refine XC.virt xvX12_stored (Nat.le_of_ble_eq_true rfl) ?_
  unfold f_m_stored at hf
  refine XR.norm (L3 := [some (.ref 1262), some (.int a0), none, none]) rfl ?_
  refine XS.go (s_aloadn rfl rfl rfl) ?_
  replace hf := xb_some hf
  obtain ⟨r1, e2, hf⟩ := hf
  refine r_callv rfl xvX12_place xm12_521 (kf_m_place (d := d) L0 e2) (LY.lt L0 (by decide)) (LY.k1262 L0) (by decide) rfl rfl (dl0 (by decide)) (by decide) (Nat.le_of_ble_eq_true rfl) ?_
  rintro _ _ ⟨⟨rfl, rfl⟩, L3⟩
  refine XS.go (XS.lcl (L3 := [some (.ref 1262), some (.int a0), some (.int r1.1), none]) (s_istoren rfl rfl (Nat.le_of_ble_eq_true rfl)) rfl) ?_
  refine XS.go (s_aloadn rfl rfl rfl) ?_
  refine XS.go (s_aloadn rfl rfl rfl) ?_
  refine XS.go (s_iloadn rfl rfl rfl) ?_
  replace hf := xb_some hf
  obtain ⟨r4, e5, hf⟩ := hf
  refine r_callv rfl xvX12_list xm12_530 (kf_m_list (d := d) L3 e5) (LY.lt L3 (by decide)) (LY.k1262 L3) (by decide) rfl rfl (dl (by decide)) (by decide) (Nat.le_of_ble_eq_true rfl) ?_
  rintro _ _ ⟨⟨rfl, rfl⟩, L6⟩
  refine XS.go (s_iloadn rfl rfl rfl) ?_
  replace hf := xb_some hf
  obtain ⟨r7, e8, hf⟩ := hf
  refine r_callv rfl xvX12_far xm12_484 (kf_m_far (d := d) L6 e8) (LY.lt L6 (by decide)) (LY.k1262 L6) (by decide) rfl rfl (dl (by decide)) (by decide) (Nat.le_of_ble_eq_true rfl) ?_
  rintro _ _ ⟨⟨rfl, rfl⟩, L9⟩
  refine XS.go (XS.lcl (L3 := [some (.ref 1262), some (.int a0), some (.int r1.1), some (.int r7.1)]) (s_istoren rfl rfl (Nat.le_of_ble_eq_true rfl)) rfl) ?_
  refine XS.go (s_iloadn rfl rfl rfl) ?_
  refine r_if_ne (tgt := 24) rfl rfl (fun qc10 => ?_) (fun qc10 => ?_)
  · replace hf := xi_pos hf qc10
    refine XS.go (s_iloadn rfl rfl rfl) ?_
    refine XS.go (s_iloadn rfl rfl rfl) ?_
    refine XS.go (s_iadd rfl) ?_
    cases hf
    exact XR.reti rfl rfl (fun hret => ⟨_, hret, ⟨rfl, rfl⟩, L9⟩)
  · replace hf := xi_neg hf qc10
    refine XS.go (s_iconst (v := (-1)) rfl rfl) ?_
    refine XS.go (s_goto (tgt := 27) rfl rfl) ?_
    cases hf
    exact XR.reti rfl rfl (fun hret => ⟨_, hret, ⟨rfl, rfl⟩, L9⟩)
def f_m_row (a0 : Int32) (h : XH) : Option (Int32 × XH) := (Option.bind (f_m_sort h) fun r1 => (if ¬ r1.1 = 3 then (Option.bind (f_m_of r1.2) fun r5 => (some (((12 * r5.1) + a0), r5.2))) else (Option.bind (f_m_of r1.2) fun r8 => (some (((16 * r8.1) + a0), r8.2)))))
set_option maxRecDepth 20000 in
theorem kf_m_row {l : Launch} {G : XG} {d : Nat} {a0 : Int32} {h : XH} {r : Int32 × XH} (L0 : LY h) (hf : f_m_row a0 h = some r) : XC l G xEX12_row (d + 1) [.ref 1262, .int a0] h (fun v h2 => (h2 = r.2 ∧ v = some (.int r.1)) ∧ LY r.2) := by
  refine XC.virt xvX12_row (Nat.le_of_ble_eq_true rfl) ?_
  unfold f_m_row at hf
  refine XR.norm (L3 := [some (.ref 1262), some (.int a0)]) rfl ?_
  refine XS.go (s_aloadn rfl rfl rfl) ?_
  replace hf := xb_some hf
  obtain ⟨r1, e2, hf⟩ := hf
  refine r_callv rfl xvX12_sort xm12_515 (kf_m_sort (d := d) L0 e2) (LY.lt L0 (by decide)) (LY.k1262 L0) (by decide) rfl rfl (dl0 (by decide)) (by decide) (Nat.le_of_ble_eq_true rfl) ?_
  rintro _ _ ⟨⟨rfl, rfl⟩, L3⟩
  refine XS.go (s_iconst (v := 3) rfl rfl) ?_
  refine r_icmp_ne (tgt := 20) rfl rfl (fun qc4 => ?_) (fun qc4 => ?_)
  · replace hf := xi_pos hf qc4
    refine XS.go (s_bipush (v := 12) rfl rfl) ?_
    refine XS.go (s_aloadn rfl rfl rfl) ?_
    replace hf := xb_some hf
    obtain ⟨r5, e6, hf⟩ := hf
    refine r_callv rfl xvX12_of xm12_518 (kf_m_of (d := d) L3 e6) (LY.lt L3 (by decide)) (LY.k1262 L3) (by decide) rfl rfl (dl0 (by decide)) (by decide) (Nat.le_of_ble_eq_true rfl) ?_
    rintro _ _ ⟨⟨rfl, rfl⟩, L7⟩
    refine XS.go (s_imul rfl) ?_
    refine XS.go (s_iloadn rfl rfl rfl) ?_
    refine XS.go (s_iadd rfl) ?_
    cases hf
    exact XR.reti rfl rfl (fun hret => ⟨_, hret, ⟨rfl, rfl⟩, L7⟩)
  · replace hf := xi_neg hf qc4
    refine XS.go (s_bipush (v := 16) rfl rfl) ?_
    refine XS.go (s_aloadn rfl rfl rfl) ?_
    replace hf := xb_some hf
    obtain ⟨r8, e9, hf⟩ := hf
    refine r_callv rfl xvX12_of xm12_518 (kf_m_of (d := d) L3 e9) (LY.lt L3 (by decide)) (LY.k1262 L3) (by decide) rfl rfl (dl0 (by decide)) (by decide) (Nat.le_of_ble_eq_true rfl) ?_
    rintro _ _ ⟨⟨rfl, rfl⟩, L10⟩
    refine XS.go (s_imul rfl) ?_
    refine XS.go (s_iloadn rfl rfl rfl) ?_
    refine XS.go (s_iadd rfl) ?_
    refine XS.go (s_goto (tgt := 29) rfl rfl) ?_
    cases hf
    exact XR.reti rfl rfl (fun hret => ⟨_, hret, ⟨rfl, rfl⟩, L10⟩)
def f_m_partSort (a0 : Int32) (h : XH) : Option (Int32 × XH) := (Option.bind (f_m_sort h) fun r1 => (if r1.1 = 2 then (Option.bind (f_m_row a0 r1.2) fun r5 => (if 0 ≤ r5.1 ∧ r5.1 < nI 144 then (some ((hi r5.2 1277 (Int32.toNatClampNeg r5.1)), r5.2)) else none)) else (if r1.1 = 3 then (Option.bind (f_m_row a0 r1.2) fun r9 => (if 0 ≤ r9.1 ∧ r9.1 < nI 256 then (some ((hi r9.2 1286 (Int32.toNatClampNeg r9.1)), r9.2)) else none)) else (if r1.1 = 4 then (some (0, r1.2)) else (if r1.1 = 5 then (if 0 ≤ ((hi r1.2 1262 87) - 1) ∧ ((hi r1.2 1262 87) - 1) < nI 100 then (some ((hi r1.2 1314 (Int32.toNatClampNeg ((hi r1.2 1262 87) - 1))), r1.2)) else none) else (some (0, r1.2)))))))
set_option maxRecDepth 20000 in
theorem kf_m_partSort {l : Launch} {G : XG} {d : Nat} {a0 : Int32} {h : XH} {r : Int32 × XH} (L0 : LY h) (hf : f_m_partSort a0 h = some r) : XC l G xEX12_partSort (d + 2) [.ref 1262, .int a0] h (fun v h2 => (h2 = r.2 ∧ v = some (.int r.1)) ∧ LY r.2) := by
  refine XC.virt xvX12_partSort (Nat.le_of_ble_eq_true rfl) ?_
  unfold f_m_partSort at hf
  refine XR.norm (L3 := [some (.ref 1262), some (.int a0)]) rfl ?_
  refine XS.go (s_aloadn rfl rfl rfl) ?_
  replace hf := xb_some hf
  obtain ⟨r1, e2, hf⟩ := hf
  refine r_callv rfl xvX12_sort xm12_515 (kf_m_sort (d := d) L0 e2) (LY.lt L0 (by decide)) (LY.k1262 L0) (by decide) rfl rfl (dl0 (by decide)) (by decide) (Nat.le_of_ble_eq_true rfl) ?_
  rintro _ _ ⟨⟨rfl, rfl⟩, L3⟩
  by_cases qs4_0 : r1.1 = 2
  · replace hf := xi_pos hf qs4_0
    refine XS.go (s_tswI (tgt := 47) rfl (by rw [qs4_0]; decide) (by rw [qs4_0]; decide) (by rw [qs4_0]; rfl) rfl) ?_
    refine XS.go (s_aloadn rfl rfl rfl) ?_
    refine XS.go (s_getr rfl xf12_52 (LY.lt L3 (by decide)) (LY.k1262 L3) (by decide) rfl (LY.r1262_25 L3)) ?_
    refine XS.go (s_aloadn rfl rfl rfl) ?_
    refine XS.go (s_iloadn rfl rfl rfl) ?_
    replace hf := xb_some hf
    obtain ⟨r5, e6, hf⟩ := hf
    refine r_callv rfl xvX12_row xm12_532 (kf_m_row (d := d) L3 e6) (LY.lt L3 (by decide)) (LY.k1262 L3) (by decide) rfl rfl (dl (by decide)) (by decide) (Nat.le_of_ble_eq_true rfl) ?_
    rintro _ _ ⟨⟨rfl, rfl⟩, L7⟩
    replace hf := xi_none hf
    obtain ⟨qk8, hf⟩ := hf
    refine XS.go (s_ialde rfl (LY.lt L7 (by decide)) (LY.k1277 L7) (inLit (LY.n1277 L7) qk8.1 qk8.2 (by decide)) rfl) ?_
    cases hf
    exact XR.reti rfl rfl (fun hret => ⟨_, hret, ⟨rfl, rfl⟩, L7⟩)
  replace hf := xi_neg hf qs4_0
  by_cases qs4_1 : r1.1 = 3
  · replace hf := xi_pos hf qs4_1
    refine XS.go (s_tswI (tgt := 36) rfl (by rw [qs4_1]; decide) (by rw [qs4_1]; decide) (by rw [qs4_1]; rfl) rfl) ?_
    refine XS.go (s_aloadn rfl rfl rfl) ?_
    refine XS.go (s_getr rfl xf12_79 (LY.lt L3 (by decide)) (LY.k1262 L3) (by decide) rfl (LY.r1262_35 L3)) ?_
    refine XS.go (s_aloadn rfl rfl rfl) ?_
    refine XS.go (s_iloadn rfl rfl rfl) ?_
    replace hf := xb_some hf
    obtain ⟨r9, e10, hf⟩ := hf
    refine r_callv rfl xvX12_row xm12_532 (kf_m_row (d := d) L3 e10) (LY.lt L3 (by decide)) (LY.k1262 L3) (by decide) rfl rfl (dl (by decide)) (by decide) (Nat.le_of_ble_eq_true rfl) ?_
    rintro _ _ ⟨⟨rfl, rfl⟩, L11⟩
    replace hf := xi_none hf
    obtain ⟨qk12, hf⟩ := hf
    refine XS.go (s_ialde rfl (LY.lt L11 (by decide)) (LY.k1286 L11) (inLit (LY.n1286 L11) qk12.1 qk12.2 (by decide)) rfl) ?_
    cases hf
    exact XR.reti rfl rfl (fun hret => ⟨_, hret, ⟨rfl, rfl⟩, L11⟩)
  replace hf := xi_neg hf qs4_1
  by_cases qs4_2 : r1.1 = 4
  · replace hf := xi_pos hf qs4_2
    refine XS.go (s_tswI (tgt := 70) rfl (by rw [qs4_2]; decide) (by rw [qs4_2]; decide) (by rw [qs4_2]; rfl) rfl) ?_
    refine XS.go (s_iconst (v := 0) rfl rfl) ?_
    cases hf
    exact XR.reti rfl rfl (fun hret => ⟨_, hret, ⟨rfl, rfl⟩, L3⟩)
  replace hf := xi_neg hf qs4_2
  by_cases qs4_3 : r1.1 = 5
  · replace hf := xi_pos hf qs4_3
    refine XS.go (s_tswI (tgt := 58) rfl (by rw [qs4_3]; decide) (by rw [qs4_3]; decide) (by rw [qs4_3]; rfl) rfl) ?_
    refine XS.go (s_aloadn rfl rfl rfl) ?_
    refine XS.go (s_getr rfl xf12_169 (LY.lt L3 (by decide)) (LY.k1262 L3) (by decide) rfl (LY.r1262_85 L3)) ?_
    refine XS.go (s_aloadn rfl rfl rfl) ?_
    refine XS.go (s_getie rfl xf12_500 (LY.lt L3 (by decide)) (LY.k1262 L3) (by decide) rfl rfl) ?_
    refine XS.go (s_iconst (v := 1) rfl rfl) ?_
    refine XS.go (s_isub rfl) ?_
    replace hf := xi_none hf
    obtain ⟨qk13, hf⟩ := hf
    refine XS.go (s_ialde rfl (LY.lt L3 (by decide)) (LY.k1314 L3) (inLit (LY.n1314 L3) qk13.1 qk13.2 (by decide)) rfl) ?_
    cases hf
    exact XR.reti rfl rfl (fun hret => ⟨_, hret, ⟨rfl, rfl⟩, L3⟩)
  replace hf := xi_neg hf qs4_3
  have qs4_o : (r1.1).toInt < 2 ∨ 5 < (r1.1).toInt := by
    refine tsw_out 2 5 (by decide) ?_
    intro k h1 h2
    have z : k = 2 ∨ k = 3 ∨ k = 4 ∨ k = 5 := by omega
    rcases z with rfl | rfl | rfl | rfl
    · exact qs4_0
    · exact qs4_1
    · exact qs4_2
    · exact qs4_3
  refine XS.go (s_tswO (tgt := 70) rfl qs4_o rfl) ?_
  refine XS.go (s_iconst (v := 0) rfl rfl) ?_
  cases hf
  exact XR.reti rfl rfl (fun hret => ⟨_, hret, ⟨rfl, rfl⟩, L3⟩)
def f_m_partOf (a0 : Int32) (h : XH) : Option (Int32 × XH) := (Option.bind (f_m_sort h) fun r1 => (if r1.1 = 2 then (Option.bind (f_m_row a0 r1.2) fun r5 => (if 0 ≤ r5.1 ∧ r5.1 < nI 144 then (some ((hi r5.2 1278 (Int32.toNatClampNeg r5.1)), r5.2)) else none)) else (if r1.1 = 3 then (Option.bind (f_m_row a0 r1.2) fun r9 => (if 0 ≤ r9.1 ∧ r9.1 < nI 256 then (some ((hi r9.2 1287 (Int32.toNatClampNeg r9.1)), r9.2)) else none)) else (if r1.1 = 4 then (some (2, r1.2)) else (if r1.1 = 5 then (Option.bind (f_m_of r1.2) fun r13 => (some (r13.1, r13.2))) else (some (2, r1.2)))))))
set_option maxRecDepth 20000 in
theorem kf_m_partOf {l : Launch} {G : XG} {d : Nat} {a0 : Int32} {h : XH} {r : Int32 × XH} (L0 : LY h) (hf : f_m_partOf a0 h = some r) : XC l G xEX12_partOf (d + 2) [.ref 1262, .int a0] h (fun v h2 => (h2 = r.2 ∧ v = some (.int r.1)) ∧ LY r.2) := by
  refine XC.virt xvX12_partOf (Nat.le_of_ble_eq_true rfl) ?_
  unfold f_m_partOf at hf
  refine XR.norm (L3 := [some (.ref 1262), some (.int a0)]) rfl ?_
  refine XS.go (s_aloadn rfl rfl rfl) ?_
  replace hf := xb_some hf
  obtain ⟨r1, e2, hf⟩ := hf
  refine r_callv rfl xvX12_sort xm12_515 (kf_m_sort (d := d) L0 e2) (LY.lt L0 (by decide)) (LY.k1262 L0) (by decide) rfl rfl (dl0 (by decide)) (by decide) (Nat.le_of_ble_eq_true rfl) ?_
  rintro _ _ ⟨⟨rfl, rfl⟩, L3⟩
  by_cases qs4_0 : r1.1 = 2
  · replace hf := xi_pos hf qs4_0
    refine XS.go (s_tswI (tgt := 47) rfl (by rw [qs4_0]; decide) (by rw [qs4_0]; decide) (by rw [qs4_0]; rfl) rfl) ?_
    refine XS.go (s_aloadn rfl rfl rfl) ?_
    refine XS.go (s_getr rfl xf12_55 (LY.lt L3 (by decide)) (LY.k1262 L3) (by decide) rfl (LY.r1262_26 L3)) ?_
    refine XS.go (s_aloadn rfl rfl rfl) ?_
    refine XS.go (s_iloadn rfl rfl rfl) ?_
    replace hf := xb_some hf
    obtain ⟨r5, e6, hf⟩ := hf
    refine r_callv rfl xvX12_row xm12_532 (kf_m_row (d := d) L3 e6) (LY.lt L3 (by decide)) (LY.k1262 L3) (by decide) rfl rfl (dl (by decide)) (by decide) (Nat.le_of_ble_eq_true rfl) ?_
    rintro _ _ ⟨⟨rfl, rfl⟩, L7⟩
    replace hf := xi_none hf
    obtain ⟨qk8, hf⟩ := hf
    refine XS.go (s_ialde rfl (LY.lt L7 (by decide)) (LY.k1278 L7) (inLit (LY.n1278 L7) qk8.1 qk8.2 (by decide)) rfl) ?_
    cases hf
    exact XR.reti rfl rfl (fun hret => ⟨_, hret, ⟨rfl, rfl⟩, L7⟩)
  replace hf := xi_neg hf qs4_0
  by_cases qs4_1 : r1.1 = 3
  · replace hf := xi_pos hf qs4_1
    refine XS.go (s_tswI (tgt := 36) rfl (by rw [qs4_1]; decide) (by rw [qs4_1]; decide) (by rw [qs4_1]; rfl) rfl) ?_
    refine XS.go (s_aloadn rfl rfl rfl) ?_
    refine XS.go (s_getr rfl xf12_82 (LY.lt L3 (by decide)) (LY.k1262 L3) (by decide) rfl (LY.r1262_36 L3)) ?_
    refine XS.go (s_aloadn rfl rfl rfl) ?_
    refine XS.go (s_iloadn rfl rfl rfl) ?_
    replace hf := xb_some hf
    obtain ⟨r9, e10, hf⟩ := hf
    refine r_callv rfl xvX12_row xm12_532 (kf_m_row (d := d) L3 e10) (LY.lt L3 (by decide)) (LY.k1262 L3) (by decide) rfl rfl (dl (by decide)) (by decide) (Nat.le_of_ble_eq_true rfl) ?_
    rintro _ _ ⟨⟨rfl, rfl⟩, L11⟩
    replace hf := xi_none hf
    obtain ⟨qk12, hf⟩ := hf
    refine XS.go (s_ialde rfl (LY.lt L11 (by decide)) (LY.k1287 L11) (inLit (LY.n1287 L11) qk12.1 qk12.2 (by decide)) rfl) ?_
    cases hf
    exact XR.reti rfl rfl (fun hret => ⟨_, hret, ⟨rfl, rfl⟩, L11⟩)
  replace hf := xi_neg hf qs4_1
  by_cases qs4_2 : r1.1 = 4
  · replace hf := xi_pos hf qs4_2
    refine XS.go (s_tswI (tgt := 63) rfl (by rw [qs4_2]; decide) (by rw [qs4_2]; decide) (by rw [qs4_2]; rfl) rfl) ?_
    refine XS.go (s_iconst (v := 2) rfl rfl) ?_
    cases hf
    exact XR.reti rfl rfl (fun hret => ⟨_, hret, ⟨rfl, rfl⟩, L3⟩)
  replace hf := xi_neg hf qs4_2
  by_cases qs4_3 : r1.1 = 5
  · replace hf := xi_pos hf qs4_3
    refine XS.go (s_tswI (tgt := 58) rfl (by rw [qs4_3]; decide) (by rw [qs4_3]; decide) (by rw [qs4_3]; rfl) rfl) ?_
    refine XS.go (s_aloadn rfl rfl rfl) ?_
    replace hf := xb_some hf
    obtain ⟨r13, e14, hf⟩ := hf
    refine r_callv rfl xvX12_of xm12_518 (kf_m_of (d := d) L3 e14) (LY.lt L3 (by decide)) (LY.k1262 L3) (by decide) rfl rfl (dl0 (by decide)) (by decide) (Nat.le_of_ble_eq_true rfl) ?_
    rintro _ _ ⟨⟨rfl, rfl⟩, L15⟩
    cases hf
    exact XR.reti rfl rfl (fun hret => ⟨_, hret, ⟨rfl, rfl⟩, L15⟩)
  replace hf := xi_neg hf qs4_3
  have qs4_o : (r1.1).toInt < 2 ∨ 5 < (r1.1).toInt := by
    refine tsw_out 2 5 (by decide) ?_
    intro k h1 h2
    have z : k = 2 ∨ k = 3 ∨ k = 4 ∨ k = 5 := by omega
    rcases z with rfl | rfl | rfl | rfl
    · exact qs4_0
    · exact qs4_1
    · exact qs4_2
    · exact qs4_3
  refine XS.go (s_tswO (tgt := 63) rfl qs4_o rfl) ?_
  refine XS.go (s_iconst (v := 2) rfl rfl) ?_
  cases hf
  exact XR.reti rfl rfl (fun hret => ⟨_, hret, ⟨rfl, rfl⟩, L3⟩)
def b_m_partAt_123 (x1 : Int32) (h : XH) : Option (Int32 × XH) := (Option.bind (f_m_place h) fun r1 => (some (((r1.1 + 4) + x1), r1.2)))
set_option maxRecDepth 20000 in
theorem kb_m_partAt_123 {l : Launch} {G : XG} {d : Nat} {x1 : Int32} {h : XH} {r : Int32 × XH} (L0 : LY h) (hf : b_m_partAt_123 x1 h = some r) : XR l G xEX12_partAt (d + 3) (123, [some (.ref 1262), some (.int x1), none, none], [], h) (fun C => ∃ v, xRet xEX12_partAt C v ∧ (C.2.2.2 = r.2 ∧ v = some (.int r.1)) ∧ LY r.2) := by
  unfold b_m_partAt_123 at hf
  refine XS.go (s_aloadn rfl rfl rfl) ?_
  replace hf := xb_some hf
  obtain ⟨r1, e2, hf⟩ := hf
  refine r_callv rfl xvX12_place xm12_521 (kf_m_place (d := d) L0 e2) (LY.lt L0 (by decide)) (LY.k1262 L0) (by decide) rfl rfl (dl0 (by decide)) (by decide) (Nat.le_of_ble_eq_true rfl) ?_
  rintro _ _ ⟨⟨rfl, rfl⟩, L3⟩
  refine XS.go (s_iconst (v := 4) rfl rfl) ?_
  refine XS.go (s_iadd rfl) ?_
  refine XS.go (s_iloadn rfl rfl rfl) ?_
  refine XS.go (s_iadd rfl) ?_
  cases hf
  exact XR.reti rfl rfl (fun hret => ⟨_, hret, ⟨rfl, rfl⟩, L3⟩)
def b_m_partAt_111 (x1 : Int32) (y0 : Int32) (h : XH) : Option (Int32 × XH) := (Option.bind (f_m_place h) fun r4 => (some (((r4.1 + 4) + (y0 * x1)), r4.2)))
set_option maxRecDepth 20000 in
theorem kb_m_partAt_111 {l : Launch} {G : XG} {d : Nat} {x1 : Int32} {y0 : Int32} {h : XH} {r : Int32 × XH} (L0 : LY h) (hf : b_m_partAt_111 x1 y0 h = some r) : XR l G xEX12_partAt (d + 3) (111, [some (.ref 1262), some (.int x1), none, none], [(.int y0)], h) (fun C => ∃ v, xRet xEX12_partAt C v ∧ (C.2.2.2 = r.2 ∧ v = some (.int r.1)) ∧ LY r.2) := by
  unfold b_m_partAt_111 at hf
  refine XS.go (XS.lcl (L3 := [some (.ref 1262), some (.int x1), none, some (.int y0)]) (s_istoren rfl rfl (Nat.le_of_ble_eq_true rfl)) rfl) ?_
  refine XS.go (s_aloadn rfl rfl rfl) ?_
  replace hf := xb_some hf
  obtain ⟨r4, e5, hf⟩ := hf
  refine r_callv rfl xvX12_place xm12_521 (kf_m_place (d := d) L0 e5) (LY.lt L0 (by decide)) (LY.k1262 L0) (by decide) rfl rfl (dl0 (by decide)) (by decide) (Nat.le_of_ble_eq_true rfl) ?_
  rintro _ _ ⟨⟨rfl, rfl⟩, L6⟩
  refine XS.go (s_iconst (v := 4) rfl rfl) ?_
  refine XS.go (s_iadd rfl) ?_
  refine XS.go (s_iloadn rfl rfl rfl) ?_
  refine XS.go (s_iloadn rfl rfl rfl) ?_
  refine XS.go (s_imul rfl) ?_
  refine XS.go (s_iadd rfl) ?_
  cases hf
  exact XR.reti rfl rfl (fun hret => ⟨_, hret, ⟨rfl, rfl⟩, L6⟩)
def f_m_partAt (a0 : Int32) (h : XH) : Option (Int32 × XH) := (Option.bind (f_m_sort h) fun r7 => (if r7.1 = 2 then (Option.bind (f_m_place r7.2) fun r11 => (Option.bind (f_m_row a0 r11.2) fun r14 => (if 0 ≤ r14.1 ∧ r14.1 < nI 144 then (some ((r11.1 + (hi r14.2 1279 (Int32.toNatClampNeg r14.1))), r14.2)) else none))) else (if r7.1 = 3 then (Option.bind (f_m_row a0 r7.2) fun r18 => (if 0 ≤ r18.1 ∧ r18.1 < nI 256 then (Option.bind (f_m_stored (hi r18.2 1289 (Int32.toNatClampNeg r18.1)) r18.2) fun r22 => (some (r22.1, r22.2))) else none)) else (if r7.1 = 4 then (b_m_partAt_123 a0 r7.2) else (if r7.1 = 5 then (if 0 ≤ ((hi r7.2 1262 87) - 1) ∧ ((hi r7.2 1262 87) - 1) < nI 100 then (if ¬ (hi r7.2 1314 (Int32.toNatClampNeg ((hi r7.2 1262 87) - 1))) = 0 then (if ¬ (hi r7.2 1314 (Int32.toNatClampNeg ((hi r7.2 1262 87) - 1))) = 2 then (b_m_partAt_111 a0 4 r7.2) else (Option.bind (f_m_of r7.2) fun r28 => (if 0 ≤ r28.1 ∧ r28.1 < nI 12 then (b_m_partAt_111 a0 (hi r28.2 1274 (Int32.toNatClampNeg r28.1)) r28.2) else none))) else (Option.bind (f_m_of r7.2) fun r32 => (Option.bind (f_m_bytesOf r32.1 r32.2) fun r35 => (b_m_partAt_111 a0 r35.1 r35.2)))) else none) else (b_m_partAt_123 a0 r7.2))))))
set_option maxRecDepth 20000 in
theorem kf_m_partAt {l : Launch} {G : XG} {d : Nat} {a0 : Int32} {h : XH} {r : Int32 × XH} (L0 : LY h) (hf : f_m_partAt a0 h = some r) : XC l G xEX12_partAt (d + 3) [.ref 1262, .int a0] h (fun v h2 => (h2 = r.2 ∧ v = some (.int r.1)) ∧ LY r.2) := by
  refine XC.virt xvX12_partAt (Nat.le_of_ble_eq_true rfl) ?_
  unfold f_m_partAt at hf
  refine XR.norm (L3 := [some (.ref 1262), some (.int a0), none, none]) rfl ?_
  refine XS.go (s_aloadn rfl rfl rfl) ?_
  replace hf := xb_some hf
  obtain ⟨r7, e8, hf⟩ := hf
  refine r_callv rfl xvX12_sort xm12_515 (kf_m_sort (d := d) L0 e8) (LY.lt L0 (by decide)) (LY.k1262 L0) (by decide) rfl rfl (dl0 (by decide)) (by decide) (Nat.le_of_ble_eq_true rfl) ?_
  rintro _ _ ⟨⟨rfl, rfl⟩, L9⟩
  by_cases qs10_0 : r7.1 = 2
  · replace hf := xi_pos hf qs10_0
    refine XS.go (s_tswI (tgt := 51) rfl (by rw [qs10_0]; decide) (by rw [qs10_0]; decide) (by rw [qs10_0]; rfl) rfl) ?_
    refine XS.go (s_aloadn rfl rfl rfl) ?_
    replace hf := xb_some hf
    obtain ⟨r11, e12, hf⟩ := hf
    refine r_callv rfl xvX12_place xm12_521 (kf_m_place (d := d) L9 e12) (LY.lt L9 (by decide)) (LY.k1262 L9) (by decide) rfl rfl (dl0 (by decide)) (by decide) (Nat.le_of_ble_eq_true rfl) ?_
    rintro _ _ ⟨⟨rfl, rfl⟩, L13⟩
    refine XS.go (s_aloadn rfl rfl rfl) ?_
    refine XS.go (s_getr rfl xf12_58 (LY.lt L13 (by decide)) (LY.k1262 L13) (by decide) rfl (LY.r1262_27 L13)) ?_
    refine XS.go (s_aloadn rfl rfl rfl) ?_
    refine XS.go (s_iloadn rfl rfl rfl) ?_
    replace hf := xb_some hf
    obtain ⟨r14, e15, hf⟩ := hf
    refine r_callv rfl xvX12_row xm12_532 (kf_m_row (d := d) L13 e15) (LY.lt L13 (by decide)) (LY.k1262 L13) (by decide) rfl rfl (dl (by decide)) (by decide) (Nat.le_of_ble_eq_true rfl) ?_
    rintro _ _ ⟨⟨rfl, rfl⟩, L16⟩
    replace hf := xi_none hf
    obtain ⟨qk17, hf⟩ := hf
    refine XS.go (s_ialde rfl (LY.lt L16 (by decide)) (LY.k1279 L16) (inLit (LY.n1279 L16) qk17.1 qk17.2 (by decide)) rfl) ?_
    refine XS.go (s_iadd rfl) ?_
    cases hf
    exact XR.reti rfl rfl (fun hret => ⟨_, hret, ⟨rfl, rfl⟩, L16⟩)
  replace hf := xi_neg hf qs10_0
  by_cases qs10_1 : r7.1 = 3
  · replace hf := xi_pos hf qs10_1
    refine XS.go (s_tswI (tgt := 36) rfl (by rw [qs10_1]; decide) (by rw [qs10_1]; decide) (by rw [qs10_1]; rfl) rfl) ?_
    refine XS.go (s_aloadn rfl rfl rfl) ?_
    refine XS.go (s_aloadn rfl rfl rfl) ?_
    refine XS.go (s_getr rfl xf12_88 (LY.lt L9 (by decide)) (LY.k1262 L9) (by decide) rfl (LY.r1262_38 L9)) ?_
    refine XS.go (s_aloadn rfl rfl rfl) ?_
    refine XS.go (s_iloadn rfl rfl rfl) ?_
    replace hf := xb_some hf
    obtain ⟨r18, e19, hf⟩ := hf
    refine r_callv rfl xvX12_row xm12_532 (kf_m_row (d := d) L9 e19) (LY.lt L9 (by decide)) (LY.k1262 L9) (by decide) rfl rfl (dl (by decide)) (by decide) (Nat.le_of_ble_eq_true rfl) ?_
    rintro _ _ ⟨⟨rfl, rfl⟩, L20⟩
    replace hf := xi_none hf
    obtain ⟨qk21, hf⟩ := hf
    refine XS.go (s_ialde rfl (LY.lt L20 (by decide)) (LY.k1289 L20) (inLit (LY.n1289 L20) qk21.1 qk21.2 (by decide)) rfl) ?_
    replace hf := xb_some hf
    obtain ⟨r22, e23, hf⟩ := hf
    refine r_callv rfl xvX12_stored xm12_534 (kf_m_stored (d := d) L20 e23) (LY.lt L20 (by decide)) (LY.k1262 L20) (by decide) rfl rfl (dl (by decide)) (by decide) (Nat.le_of_ble_eq_true rfl) ?_
    rintro _ _ ⟨⟨rfl, rfl⟩, L24⟩
    cases hf
    exact XR.reti rfl rfl (fun hret => ⟨_, hret, ⟨rfl, rfl⟩, L24⟩)
  replace hf := xi_neg hf qs10_1
  by_cases qs10_2 : r7.1 = 4
  · replace hf := xi_pos hf qs10_2
    refine XS.go (s_tswI (tgt := 123) rfl (by rw [qs10_2]; decide) (by rw [qs10_2]; decide) (by rw [qs10_2]; rfl) rfl) ?_
    exact XR.forget (L2 := [some (.ref 1262), some (.int a0), none, none]) ⟨rfl, ⟨rfl, trivial⟩⟩ (kb_m_partAt_123 L9 hf)
  replace hf := xi_neg hf qs10_2
  by_cases qs10_3 : r7.1 = 5
  · replace hf := xi_pos hf qs10_3
    refine XS.go (s_tswI (tgt := 67) rfl (by rw [qs10_3]; decide) (by rw [qs10_3]; decide) (by rw [qs10_3]; rfl) rfl) ?_
    refine XS.go (s_aloadn rfl rfl rfl) ?_
    refine XS.go (s_getr rfl xf12_169 (LY.lt L9 (by decide)) (LY.k1262 L9) (by decide) rfl (LY.r1262_85 L9)) ?_
    refine XS.go (s_aloadn rfl rfl rfl) ?_
    refine XS.go (s_getie rfl xf12_500 (LY.lt L9 (by decide)) (LY.k1262 L9) (by decide) rfl rfl) ?_
    refine XS.go (s_iconst (v := 1) rfl rfl) ?_
    refine XS.go (s_isub rfl) ?_
    replace hf := xi_none hf
    obtain ⟨qk25, hf⟩ := hf
    refine XS.go (s_ialde rfl (LY.lt L9 (by decide)) (LY.k1314 L9) (inLit (LY.n1314 L9) qk25.1 qk25.2 (by decide)) rfl) ?_
    refine XS.go (XS.lcl (L3 := [some (.ref 1262), some (.int a0), some (.int (hi r7.2 1314 (Int32.toNatClampNeg ((hi r7.2 1262 87) - 1)))), none]) (s_istoren rfl rfl (Nat.le_of_ble_eq_true rfl)) rfl) ?_
    refine XS.go (s_iloadn rfl rfl rfl) ?_
    refine r_if_ne (tgt := 93) rfl rfl (fun qc26 => ?_) (fun qc26 => ?_)
    · replace hf := xi_pos hf qc26
      refine XS.go (s_iloadn rfl rfl rfl) ?_
      refine XS.go (s_iconst (v := 2) rfl rfl) ?_
      refine r_icmp_ne (tgt := 110) rfl rfl (fun qc27 => ?_) (fun qc27 => ?_)
      · replace hf := xi_pos hf qc27
        refine XS.go (s_iconst (v := 4) rfl rfl) ?_
        exact XR.forget (L2 := [some (.ref 1262), some (.int a0), none, none]) ⟨rfl, ⟨rfl, trivial⟩⟩ (kb_m_partAt_111 L9 hf)
      · replace hf := xi_neg hf qc27
        refine XS.go (s_aloadn rfl rfl rfl) ?_
        refine XS.go (s_getr rfl xf12_43 (LY.lt L9 (by decide)) (LY.k1262 L9) (by decide) rfl (LY.r1262_22 L9)) ?_
        refine XS.go (s_aloadn rfl rfl rfl) ?_
        replace hf := xb_some hf
        obtain ⟨r28, e29, hf⟩ := hf
        refine r_callv rfl xvX12_of xm12_518 (kf_m_of (d := d) L9 e29) (LY.lt L9 (by decide)) (LY.k1262 L9) (by decide) rfl rfl (dl0 (by decide)) (by decide) (Nat.le_of_ble_eq_true rfl) ?_
        rintro _ _ ⟨⟨rfl, rfl⟩, L30⟩
        replace hf := xi_none hf
        obtain ⟨qk31, hf⟩ := hf
        refine XS.go (s_ialde rfl (LY.lt L30 (by decide)) (LY.k1274 L30) (inLit (LY.n1274 L30) qk31.1 qk31.2 (by decide)) rfl) ?_
        refine XS.go (s_goto (tgt := 111) rfl rfl) ?_
        exact XR.forget (L2 := [some (.ref 1262), some (.int a0), none, none]) ⟨rfl, ⟨rfl, trivial⟩⟩ (kb_m_partAt_111 L30 hf)
    · replace hf := xi_neg hf qc26
      refine XS.go (s_aloadn rfl rfl rfl) ?_
      replace hf := xb_some hf
      obtain ⟨r32, e33, hf⟩ := hf
      refine r_callv rfl xvX12_of xm12_518 (kf_m_of (d := d) L9 e33) (LY.lt L9 (by decide)) (LY.k1262 L9) (by decide) rfl rfl (dl0 (by decide)) (by decide) (Nat.le_of_ble_eq_true rfl) ?_
      rintro _ _ ⟨⟨rfl, rfl⟩, L34⟩
      replace hf := xb_some hf
      obtain ⟨r35, e36, hf⟩ := hf
      refine r_calls rfl xsX12_bytesOf xm12_315 (kf_m_bytesOf (d := d) L34 e36) rfl rfl (dl0 (by decide)) (by decide) (Nat.le_of_ble_eq_true rfl) ?_
      rintro _ _ ⟨⟨rfl, rfl⟩, L37⟩
      refine XS.go (s_goto (tgt := 111) rfl rfl) ?_
      exact XR.forget (L2 := [some (.ref 1262), some (.int a0), none, none]) ⟨rfl, ⟨rfl, trivial⟩⟩ (kb_m_partAt_111 L37 hf)
  replace hf := xi_neg hf qs10_3
  have qs10_o : (r7.1).toInt < 2 ∨ 5 < (r7.1).toInt := by
    refine tsw_out 2 5 (by decide) ?_
    intro k h1 h2
    have z : k = 2 ∨ k = 3 ∨ k = 4 ∨ k = 5 := by omega
    rcases z with rfl | rfl | rfl | rfl
    · exact qs10_0
    · exact qs10_1
    · exact qs10_2
    · exact qs10_3
  refine XS.go (s_tswO (tgt := 123) rfl qs10_o rfl) ?_
  exact XR.forget (L2 := [some (.ref 1262), some (.int a0), none, none]) ⟨rfl, ⟨rfl, trivial⟩⟩ (kb_m_partAt_123 L9 hf)
def f_m_which (a0 : Int32) (h : XH) : Option (Int32 × XH) := (Option.bind (f_m_partAt a0 h) fun r1 => (if ¬ r1.1 = (-1) then (if 0 ≤ r1.1 ∧ r1.1 < nI 4000 then (some ((hi r1.2 1310 (Int32.toNatClampNeg r1.1)), r1.2)) else none) else (some (0, r1.2))))
set_option maxRecDepth 20000 in
theorem kf_m_which {l : Launch} {G : XG} {d : Nat} {a0 : Int32} {h : XH} {r : Int32 × XH} (L0 : LY h) (hf : f_m_which a0 h = some r) : XC l G xEX12_which (d + 4) [.ref 1262, .int a0] h (fun v h2 => (h2 = r.2 ∧ v = some (.int r.1)) ∧ LY r.2) := by
  refine XC.virt xvX12_which (Nat.le_of_ble_eq_true rfl) ?_
  unfold f_m_which at hf
  refine XR.norm (L3 := [some (.ref 1262), some (.int a0), none]) rfl ?_
  refine XS.go (s_aloadn rfl rfl rfl) ?_
  refine XS.go (s_iloadn rfl rfl rfl) ?_
  replace hf := xb_some hf
  obtain ⟨r1, e2, hf⟩ := hf
  refine r_callv rfl xvX12_partAt xm12_537 (kf_m_partAt (d := d) L0 e2) (LY.lt L0 (by decide)) (LY.k1262 L0) (by decide) rfl rfl (dl (by decide)) (by decide) (Nat.le_of_ble_eq_true rfl) ?_
  rintro _ _ ⟨⟨rfl, rfl⟩, L3⟩
  refine XS.go (XS.lcl (L3 := [some (.ref 1262), some (.int a0), some (.int r1.1)]) (s_istoren rfl rfl (Nat.le_of_ble_eq_true rfl)) rfl) ?_
  refine XS.go (s_iloadn rfl rfl rfl) ?_
  refine XS.go (s_iconst (v := (-1)) rfl rfl) ?_
  refine r_icmp_ne (tgt := 15) rfl rfl (fun qc4 => ?_) (fun qc4 => ?_)
  · replace hf := xi_pos hf qc4
    refine XS.go (s_aloadn rfl rfl rfl) ?_
    refine XS.go (s_getr rfl xf12_157 (LY.lt L3 (by decide)) (LY.k1262 L3) (by decide) rfl (LY.r1262_74 L3)) ?_
    refine XS.go (s_iloadn rfl rfl rfl) ?_
    replace hf := xi_none hf
    obtain ⟨qk5, hf⟩ := hf
    refine XS.go (s_ialde rfl (LY.lt L3 (by decide)) (LY.k1310 L3) (inLit (LY.n1310 L3) qk5.1 qk5.2 (by decide)) rfl) ?_
    cases hf
    exact XR.reti rfl rfl (fun hret => ⟨_, hret, ⟨rfl, rfl⟩, L3⟩)
  · replace hf := xi_neg hf qc4
    refine XS.go (s_iconst (v := 0) rfl rfl) ?_
    refine XS.go (s_goto (tgt := 21) rfl rfl) ?_
    cases hf
    exact XR.reti rfl rfl (fun hret => ⟨_, hret, ⟨rfl, rfl⟩, L3⟩)
def f_m_has (a0 : Int32) (h : XH) : Option (Int32 × XH) := (Option.bind (f_m_isPart a0 (hsi h 1262 0 0)) fun r1 => (if ¬ r1.1 = 0 then (Option.bind (f_m_partSort a0 r1.2) fun r5 => (if ¬ r5.1 = 4 then (Option.bind (f_m_partAt a0 r5.2) fun r9 => (if ¬ r9.1 = (-1) then (some (1, r9.2)) else (some (0, r9.2)))) else (Option.bind (f_m_which a0 r5.2) fun r13 => (if ¬ r13.1 = 0 then (some (1, r13.2)) else (some (0, r13.2)))))) else (some ((-1), r1.2))))
set_option maxRecDepth 20000 in
theorem kf_m_has {l : Launch} {G : XG} {d : Nat} {a0 : Int32} {h : XH} {r : Int32 × XH} (L0 : LY h) (hf : f_m_has a0 h = some r) : XC l G xEX12_has (d + 5) [.ref 1262, .int a0] h (fun v h2 => (h2 = r.2 ∧ v = some (.int r.1)) ∧ LY r.2) := by
  refine XC.virt xvX12_has (Nat.le_of_ble_eq_true rfl) ?_
  unfold f_m_has at hf
  refine XR.norm (L3 := [some (.ref 1262), some (.int a0)]) rfl ?_
  refine XS.go (s_aloadn rfl rfl rfl) ?_
  refine XS.go (s_iconst (v := 0) rfl rfl) ?_
  refine XS.go (s_puti rfl xf12_175 (LY.lt L0 (by decide)) (LY.k1262 L0) (by decide) rfl (Or.inl rfl)) ?_
  refine XS.go (s_aloadn rfl rfl rfl) ?_
  refine XS.go (s_iloadn rfl rfl rfl) ?_
  replace hf := xb_some hf
  obtain ⟨r1, e2, hf⟩ := hf
  refine r_callv rfl xvX12_isPart xm12_540 (kf_m_isPart (d := d) (by simp only [LY_si, LY_sj]; exact L0) e2) (LY.lt (by simp only [LY_si, LY_sj]; exact L0) (by decide)) (LY.k1262 (by simp only [LY_si, LY_sj]; exact L0)) (by decide) rfl rfl (dl (by decide)) (by decide) (Nat.le_of_ble_eq_true rfl) ?_
  rintro _ _ ⟨⟨rfl, rfl⟩, L3⟩
  refine r_if_ne (tgt := 15) rfl rfl (fun qc4 => ?_) (fun qc4 => ?_)
  · replace hf := xi_pos hf qc4
    refine XS.go (s_aloadn rfl rfl rfl) ?_
    refine XS.go (s_iloadn rfl rfl rfl) ?_
    replace hf := xb_some hf
    obtain ⟨r5, e6, hf⟩ := hf
    refine r_callv rfl xvX12_partSort xm12_543 (kf_m_partSort (d := d) L3 e6) (LY.lt L3 (by decide)) (LY.k1262 L3) (by decide) rfl rfl (dl (by decide)) (by decide) (Nat.le_of_ble_eq_true rfl) ?_
    rintro _ _ ⟨⟨rfl, rfl⟩, L7⟩
    refine XS.go (s_iconst (v := 4) rfl rfl) ?_
    refine r_icmp_ne (tgt := 38) rfl rfl (fun qc8 => ?_) (fun qc8 => ?_)
    · replace hf := xi_pos hf qc8
      refine XS.go (s_aloadn rfl rfl rfl) ?_
      refine XS.go (s_iloadn rfl rfl rfl) ?_
      replace hf := xb_some hf
      obtain ⟨r9, e10, hf⟩ := hf
      refine r_callv rfl xvX12_partAt xm12_537 (kf_m_partAt (d := d) L7 e10) (LY.lt L7 (by decide)) (LY.k1262 L7) (by decide) rfl rfl (dl (by decide)) (by decide) (Nat.le_of_ble_eq_true rfl) ?_
      rintro _ _ ⟨⟨rfl, rfl⟩, L11⟩
      refine XS.go (s_iconst (v := (-1)) rfl rfl) ?_
      refine r_icmp_ne (tgt := 51) rfl rfl (fun qc12 => ?_) (fun qc12 => ?_)
      · replace hf := xi_pos hf qc12
        refine XS.go (s_iconst (v := 1) rfl rfl) ?_
        cases hf
        exact XR.reti rfl rfl (fun hret => ⟨_, hret, ⟨rfl, rfl⟩, L11⟩)
      · replace hf := xi_neg hf qc12
        refine XS.go (s_iconst (v := 0) rfl rfl) ?_
        refine XS.go (s_goto (tgt := 52) rfl rfl) ?_
        cases hf
        exact XR.reti rfl rfl (fun hret => ⟨_, hret, ⟨rfl, rfl⟩, L11⟩)
    · replace hf := xi_neg hf qc8
      refine XS.go (s_aloadn rfl rfl rfl) ?_
      refine XS.go (s_iloadn rfl rfl rfl) ?_
      replace hf := xb_some hf
      obtain ⟨r13, e14, hf⟩ := hf
      refine r_callv rfl xvX12_which xm12_546 (kf_m_which (d := d) L7 e14) (LY.lt L7 (by decide)) (LY.k1262 L7) (by decide) rfl rfl (dl (by decide)) (by decide) (Nat.le_of_ble_eq_true rfl) ?_
      rintro _ _ ⟨⟨rfl, rfl⟩, L15⟩
      refine r_if_ne (tgt := 36) rfl rfl (fun qc16 => ?_) (fun qc16 => ?_)
      · replace hf := xi_pos hf qc16
        refine XS.go (s_iconst (v := 1) rfl rfl) ?_
        cases hf
        exact XR.reti rfl rfl (fun hret => ⟨_, hret, ⟨rfl, rfl⟩, L15⟩)
      · replace hf := xi_neg hf qc16
        refine XS.go (s_iconst (v := 0) rfl rfl) ?_
        refine XS.go (s_goto (tgt := 37) rfl rfl) ?_
        cases hf
        exact XR.reti rfl rfl (fun hret => ⟨_, hret, ⟨rfl, rfl⟩, L15⟩)
  · replace hf := xi_neg hf qc4
    refine XS.go (s_iconst (v := (-1)) rfl rfl) ?_
    cases hf
    exact XR.reti rfl rfl (fun hret => ⟨_, hret, ⟨rfl, rfl⟩, L3⟩)
