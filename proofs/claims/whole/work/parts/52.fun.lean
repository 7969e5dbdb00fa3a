/-! Methods as functions of the heap -/
def b_j_isStruct_56 (K8 : Nat → Int32 → Nat → Int32 → XH → Option (Int32 × XH)) (x0 : Nat) (x1 : Int32) (x2 : Nat) (x3 : Int32) (h : XH) : Option (Int32 × XH) := (K8 x0 x1 x2 (x3 + 1) h)
set_option maxRecDepth 20000 in
theorem kb_j_isStruct_56 {l : Launch} {G : XG} {d : Nat} {K8 : Nat → Int32 → Nat → Int32 → XH → Option (Int32 × XH)} {x0 : Nat} {x1 : Int32} {x2 : Nat} {x3 : Int32} {h : XH} {r : Int32 × XH} (hK8 : ∀ (x0 : Nat) (x1 : Int32) (x2 : Nat) (x3 : Int32) (h : XH), LY h → K8 x0 x1 x2 x3 h = some r → XR l G xEX5_isStruct (d + 1) (8, [some (.ref x0), some (.int x1), some (.ref x2), some (.int x3), none], [], h) (fun C => ∃ v, xRet xEX5_isStruct C v ∧ (C.2.2.2 = r.2 ∧ v = some (.int r.1)) ∧ LY r.2)) (L0 : LY h) (hf : b_j_isStruct_56 K8 x0 x1 x2 x3 h = some r) : XR l G xEX5_isStruct (d + 1) (56, [some (.ref x0), some (.int x1), some (.ref x2), some (.int x3), none], [], h) (fun C => ∃ v, xRet xEX5_isStruct C v ∧ (C.2.2.2 = r.2 ∧ v = some (.int r.1)) ∧ LY r.2) := by
  unfold b_j_isStruct_56 at hf
  refine XS.go (XS.lcl (L3 := [some (.ref x0), some (.int x1), some (.ref x2), some (.int (x3 + 1)), none]) (s_inc rfl rfl (Nat.le_of_ble_eq_true rfl)) rfl) ?_
  refine XS.go (s_goto (tgt := 8) rfl rfl) ?_
  exact XR.forget (L2 := [some (.ref x0), some (.int x1), some (.ref x2), some (.int (x3 + 1)), none]) ⟨rfl, ⟨rfl, ⟨rfl, ⟨rfl, trivial⟩⟩⟩⟩ (hK8 x0 x1 x2 (x3 + 1) _ L0 hf)
def s_j_isStruct_8 (K8 : Nat → Int32 → Nat → Int32 → XH → Option (Int32 × XH)) (x0 : Nat) (x1 : Int32) (x2 : Nat) (x3 : Int32) (h : XH) : Option (Int32 × XH) := (if x2 < hz h ∧ hk h x2 = 2 then (if (hi h x2 11) ≤ x3 then (some (1, h)) else (Option.bind (f_d_leafPlace x2 x3 h) fun r3 => (if x2 < hz r3.2 ∧ hk r3.2 x2 = 2 then (Option.bind (f_d_leafScalar x2 x3 r3.2) fun r7 => (if ¬ r7.1 = 0 then (b_j_isStruct_56 K8 x0 x1 x2 x3 r7.2) else (if x0 < hz r7.2 ∧ hk r7.2 x0 = 5 then (Option.bind (hr r7.2 x0 1) fun b12 => (if b12 < hz r7.2 ∧ hk r7.2 b12 = 1 then (Option.bind (f_b_octet b12 (x1 + r3.1) r7.2) fun r15 => (if r15.1 ≤ 1 then (b_j_isStruct_56 K8 x0 x1 x2 x3 r15.2) else (if x0 < hz r15.2 ∧ hk r15.2 x0 = 5 then (Option.bind (f_j_wrong x0 11 (Int32.toInt64 (x1 + r3.1)) r15.2) fun r20 => (if r20.1 = 0 ∨ r20.1 = 1 then (some (r20.1, r20.2)) else none)) else none))) else none)) else none))) else none))) else none)
set_option maxRecDepth 20000 in
theorem ks_j_isStruct_8 {l : Launch} {G : XG} {d : Nat} {K8 : Nat → Int32 → Nat → Int32 → XH → Option (Int32 × XH)} {x0 : Nat} {x1 : Int32} {x2 : Nat} {x3 : Int32} {h : XH} {r : Int32 × XH} (hK8 : ∀ (x0 : Nat) (x1 : Int32) (x2 : Nat) (x3 : Int32) (h : XH), LY h → K8 x0 x1 x2 x3 h = some r → XR l G xEX5_isStruct (d + 1) (8, [some (.ref x0), some (.int x1), some (.ref x2), some (.int x3), none], [], h) (fun C => ∃ v, xRet xEX5_isStruct C v ∧ (C.2.2.2 = r.2 ∧ v = some (.int r.1)) ∧ LY r.2)) (L0 : LY h) (hf : s_j_isStruct_8 K8 x0 x1 x2 x3 h = some r) : XR l G xEX5_isStruct (d + 1) (8, [some (.ref x0), some (.int x1), some (.ref x2), some (.int x3), none], [], h) (fun C => ∃ v, xRet xEX5_isStruct C v ∧ (C.2.2.2 = r.2 ∧ v = some (.int r.1)) ∧ LY r.2) := by
  unfold s_j_isStruct_8 at hf
  refine XS.go (s_iloadn rfl rfl rfl) ?_
  refine XS.go (s_aloadn rfl rfl rfl) ?_
  replace hf := xi_none hf
  obtain ⟨qk1, hf⟩ := hf
  refine XS.go (s_getie rfl xf5_163 qk1.1 qk1.2 (by decide) rfl rfl) ?_
  refine r_icmp_ge (tgt := 62) rfl rfl (fun qc2 => ?_) (fun qc2 => ?_)
  · replace hf := xi_pos hf qc2
    refine XS.go (s_iconst (v := 1) rfl rfl) ?_
    cases hf
    exact XR.retz rfl rfl (by decide) (fun hret => ⟨_, hret, ⟨rfl, rfl⟩, L0⟩)
  · replace hf := xi_neg hf qc2
    refine XS.go (s_iloadn rfl rfl rfl) ?_
    refine XS.go (s_aloadn rfl rfl rfl) ?_
    refine XS.go (s_iloadn rfl rfl rfl) ?_
    replace hf := xb_some hf
    obtain ⟨r3, e4, hf⟩ := hf
    refine r_callv rfl xvX2_leafPlace xm5_166 (kf_d_leafPlace (d := d) L0 e4) qk1.1 qk1.2 (by decide) rfl rfl (dl0 (by decide)) (by decide) (Nat.le_of_ble_eq_true rfl) ?_
    rintro _ _ ⟨⟨rfl, rfl⟩, L5⟩
    refine XS.go (s_iadd rfl) ?_
    refine XS.go (XS.lcl (L3 := [some (.ref x0), some (.int x1), some (.ref x2), some (.int x3), some (.int (x1 + r3.1))]) (s_istore rfl (Nat.le_of_ble_eq_true rfl)) rfl) ?_
    refine XS.go (s_aloadn rfl rfl rfl) ?_
    refine XS.go (s_iloadn rfl rfl rfl) ?_
    replace hf := xi_none hf
    obtain ⟨qk6, hf⟩ := hf
    replace hf := xb_some hf
    obtain ⟨r7, e8, hf⟩ := hf
    refine r_callv rfl xvX2_leafScalar xm5_169 (kf_d_leafScalar (d := d) L5 e8) qk6.1 qk6.2 (by decide) rfl rfl (dl0 (by decide)) (by decide) (Nat.le_of_ble_eq_true rfl) ?_
    rintro _ _ ⟨⟨rfl, rfl⟩, L9⟩
    refine r_if_ne (tgt := 56) rfl rfl (fun qc10 => ?_) (fun qc10 => ?_)
    · replace hf := xi_pos hf qc10
      exact XR.forget (L2 := [some (.ref x0), some (.int x1), some (.ref x2), some (.int x3), none]) ⟨rfl, ⟨rfl, ⟨rfl, ⟨rfl, trivial⟩⟩⟩⟩ (kb_j_isStruct_56 hK8 L9 hf)
    · replace hf := xi_neg hf qc10
      refine XS.go (s_aloadn rfl rfl rfl) ?_
      replace hf := xi_none hf
      obtain ⟨qk11, hf⟩ := hf
      replace hf := xb_some hf
      obtain ⟨b12, qr13, hf⟩ := hf
      refine XS.go (s_getr rfl xf5_25 qk11.1 qk11.2 (by decide) rfl qr13) ?_
      refine XS.go (s_iload rfl rfl) ?_
      replace hf := xi_none hf
      obtain ⟨qk14, hf⟩ := hf
      replace hf := xb_some hf
      obtain ⟨r15, e16, hf⟩ := hf
      refine r_callv rfl xvX1_octet xm5_143 (kf_b_octet (d := d) L9 e16) qk14.1 qk14.2 (by decide) rfl rfl (dl0 (by decide)) (by decide) (Nat.le_of_ble_eq_true rfl) ?_
      rintro _ _ ⟨⟨rfl, rfl⟩, L17⟩
      refine XS.go (s_iconst (v := 1) rfl rfl) ?_
      refine r_icmp_le (tgt := 56) rfl rfl (fun qc18 => ?_) (fun qc18 => ?_)
      · replace hf := xi_pos hf qc18
        exact XR.forget (L2 := [some (.ref x0), some (.int x1), some (.ref x2), some (.int x3), none]) ⟨rfl, ⟨rfl, ⟨rfl, ⟨rfl, trivial⟩⟩⟩⟩ (kb_j_isStruct_56 hK8 L17 hf)
      · replace hf := xi_neg hf qc18
        refine XS.go (s_aloadn rfl rfl rfl) ?_
        refine XS.go (s_bipush (v := 11) rfl rfl) ?_
        refine XS.go (s_iload rfl rfl) ?_
        refine XS.go (s_i2l rfl) ?_
        replace hf := xi_none hf
        obtain ⟨qk19, hf⟩ := hf
        replace hf := xb_some hf
        obtain ⟨r20, e21, hf⟩ := hf
        refine r_callv rfl xvX5_wrong xm5_32 (kf_j_wrong (d := d) L17 e21) qk19.1 qk19.2 (by decide) rfl rfl (dl0 (by decide)) (by decide) (Nat.le_of_ble_eq_true rfl) ?_
        rintro _ _ ⟨⟨rfl, rfl⟩, L22⟩
        replace hf := xi_none hf
        obtain ⟨qk23, hf⟩ := hf
        cases hf
        exact XR.retz rfl rfl qk23 (fun hret => ⟨_, hret, ⟨rfl, rfl⟩, L22⟩)
def b_j_isStruct_8 : Nat → Nat → Int32 → Nat → Int32 → XH → Option (Int32 × XH)
  | 0, _, _, _, _, _ => none
  | n + 1, x0, x1, x2, x3, h => s_j_isStruct_8 (b_j_isStruct_8 n) x0 x1 x2 x3 h
theorem kb_j_isStruct_8 {l : Launch} {G : XG} {d : Nat} {n : Nat} {x0 : Nat} {x1 : Int32} {x2 : Nat} {x3 : Int32} {h : XH} {r : Int32 × XH} (L0 : LY h) (hf : b_j_isStruct_8 n x0 x1 x2 x3 h = some r) : XR l G xEX5_isStruct (d + 1) (8, [some (.ref x0), some (.int x1), some (.ref x2), some (.int x3), none], [], h) (fun C => ∃ v, xRet xEX5_isStruct C v ∧ (C.2.2.2 = r.2 ∧ v = some (.int r.1)) ∧ LY r.2) := by
  induction n generalizing x0 x1 x2 x3 h with
  | zero => cases hf
  | succ n ih => exact ks_j_isStruct_8 (fun x0 x1 x2 x3 h L0 hf => ih (h := h) (x0 := x0) (x1 := x1) (x2 := x2) (x3 := x3) L0 hf) L0 hf
def f_j_isStruct (t : Nat) (a0 : Int32) (a1 : Nat) (h : XH) : Option (Int32 × XH) := (b_j_isStruct_8 100000 t a0 a1 0 h)
set_option maxRecDepth 20000 in
theorem kf_j_isStruct {l : Launch} {G : XG} {d : Nat} {t : Nat} {a0 : Int32} {a1 : Nat} {h : XH} {r : Int32 × XH} (L0 : LY h) (hf : f_j_isStruct t a0 a1 h = some r) : XC l G xEX5_isStruct (d + 1) [.ref t, .int a0, .ref a1] h (fun v h2 => (h2 = r.2 ∧ v = some (.int r.1)) ∧ LY r.2) := by
  refine XC.virt xvX5_isStruct (Nat.le_of_ble_eq_true rfl) ?_
  unfold f_j_isStruct at hf
  refine XR.norm (L3 := [some (.ref t), some (.int a0), some (.ref a1), none, none]) rfl ?_
  refine XS.go (s_aloadn rfl rfl rfl) ?_
  refine XS.go (s_ifnonnull_r (tgt := 6) rfl rfl) ?_
  refine XS.go (s_iconst (v := 0) rfl rfl) ?_
  refine XS.go (XS.lcl (L3 := [some (.ref t), some (.int a0), some (.ref a1), some (.int 0), none]) (s_istoren rfl rfl (Nat.le_of_ble_eq_true rfl)) rfl) ?_
  exact XR.forget (L2 := [some (.ref t), some (.int a0), some (.ref a1), some (.int 0), none]) ⟨rfl, ⟨rfl, ⟨rfl, ⟨rfl, trivial⟩⟩⟩⟩ (kb_j_isStruct_8 L0 hf)
def b_j_isText_58 (h : XH) : Option (Int32 × XH) := (some (1, h))
set_option maxRecDepth 20000 in
theorem kb_j_isText_58 {l : Launch} {G : XG} {d : Nat} {h : XH} {r : Int32 × XH} (L0 : LY h) (hf : b_j_isText_58 h = some r) : XR l G xEX5_isText (d + 1) (58, [none, none, none, none], [], h) (fun C => ∃ v, xRet xEX5_isText C v ∧ (C.2.2.2 = r.2 ∧ v = some (.int r.1)) ∧ LY r.2) := by
  unfold b_j_isText_58 at hf
  refine XS.go (s_iconst (v := 1) rfl rfl) ?_
  refine XS.go (s_goto (tgt := 63) rfl rfl) ?_
  cases hf
  exact XR.retz rfl rfl (by decide) (fun hret => ⟨_, hret, ⟨rfl, rfl⟩, L0⟩)
def f_j_isText (t : Nat) (a0 : Int32) (h : XH) : Option (Int32 × XH) := (if t < hz h ∧ hk h t = 5 then (Option.bind (hr h t 1) fun b2 => (if b2 < hz h ∧ hk h b2 = 1 then (Option.bind (f_b_number b2 a0 4 h) fun r5 => (if t < hz r5.2 ∧ hk r5.2 t = 5 then (if (lg_cmp (((Int32.toInt64 (a0 + 4)) + r5.1) + (1 : Int64)) (Int32.toInt64 (hi r5.2 t 2))) ≤ 0 then (Option.bind (hr r5.2 t 1) fun b10 => (if b10 < hz r5.2 ∧ hk r5.2 b10 = 1 then (Option.bind (f_b_octet b10 (Int64.toInt32 ((Int32.toInt64 (a0 + 4)) + r5.1)) r5.2) fun r13 => (if r13.1 = 0 then (b_j_isText_58 r13.2) else (if t < hz r13.2 ∧ hk r13.2 t = 5 then (Option.bind (f_j_wrong t 14 ((Int32.toInt64 (a0 + 4)) + r5.1) r13.2) fun r18 => (if r18.1 = 0 then (some (0, r18.2)) else (b_j_isText_58 r18.2))) else none))) else none)) else (Option.bind (f_j_wrong t 13 (Int32.toInt64 a0) r5.2) fun r22 => (if r22.1 = 0 ∨ r22.1 = 1 then (some (r22.1, r22.2)) else none))) else none)) else none)) else none)
set_option maxRecDepth 20000 in
theorem kf_j_isText {l : Launch} {G : XG} {d : Nat} {t : Nat} {a0 : Int32} {h : XH} {r : Int32 × XH} (L0 : LY h) (hf : f_j_isText t a0 h = some r) : XC l G xEX5_isText (d + 1) [.ref t, .int a0] h (fun v h2 => (h2 = r.2 ∧ v = some (.int r.1)) ∧ LY r.2) := by
  refine XC.virt xvX5_isText (Nat.le_of_ble_eq_true rfl) ?_
  unfold f_j_isText at hf
  refine XR.norm (L3 := [some (.ref t), some (.int a0), none, none]) rfl ?_
  refine XS.go (s_iloadn rfl rfl rfl) ?_
  refine XS.go (s_iconst (v := 4) rfl rfl) ?_
  refine XS.go (s_iadd rfl) ?_
  refine XS.go (s_i2l rfl) ?_
  refine XS.go (s_aloadn rfl rfl rfl) ?_
  replace hf := xi_none hf
  obtain ⟨qk1, hf⟩ := hf
  replace hf := xb_some hf
  obtain ⟨b2, qr3, hf⟩ := hf
  refine XS.go (s_getr rfl xf5_25 qk1.1 qk1.2 (by decide) rfl qr3) ?_
  refine XS.go (s_iloadn rfl rfl rfl) ?_
  refine XS.go (s_iconst (v := 4) rfl rfl) ?_
  replace hf := xi_none hf
  obtain ⟨qk4, hf⟩ := hf
  replace hf := xb_some hf
  obtain ⟨r5, e6, hf⟩ := hf
  refine r_callv rfl xvX1_number xm5_45 (kf_b_number (d := d) L0 e6) qk4.1 qk4.2 (by decide) rfl rfl (dl0 (by decide)) (by decide) (Nat.le_of_ble_eq_true rfl) ?_
  rintro _ _ ⟨⟨rfl, rfl⟩, L7⟩
  refine XS.go (s_ladd rfl) ?_
  refine XS.go (XS.lcl (L3 := [some (.ref t), some (.int a0), some (.long ((Int32.toInt64 (a0 + 4)) + r5.1)), none]) (s_lstoren rfl rfl (Nat.le_of_ble_eq_true rfl)) rfl) ?_
  refine XS.go (s_lloadn rfl rfl rfl) ?_
  refine XS.go (s_lconst (v := 1) rfl rfl) ?_
  refine XS.go (s_ladd rfl) ?_
  refine XS.go (s_aloadn rfl rfl rfl) ?_
  replace hf := xi_none hf
  obtain ⟨qk8, hf⟩ := hf
  refine XS.go (s_getie rfl xf5_29 qk8.1 qk8.2 (by decide) rfl rfl) ?_
  refine XS.go (s_i2l rfl) ?_
  refine XS.go (s_lcmp rfl) ?_
  refine r_if_le (tgt := 36) rfl rfl (fun qc9 => ?_) (fun qc9 => ?_)
  · replace hf := xi_pos hf qc9
    refine XS.go (s_aloadn rfl rfl rfl) ?_
    replace hf := xb_some hf
    obtain ⟨b10, qr11, hf⟩ := hf
    refine XS.go (s_getr rfl xf5_25 qk8.1 qk8.2 (by decide) rfl qr11) ?_
    refine XS.go (s_lloadn rfl rfl rfl) ?_
    refine XS.go (s_l2i rfl) ?_
    replace hf := xi_none hf
    obtain ⟨qk12, hf⟩ := hf
    replace hf := xb_some hf
    obtain ⟨r13, e14, hf⟩ := hf
    refine r_callv rfl xvX1_octet xm5_143 (kf_b_octet (d := d) L7 e14) qk12.1 qk12.2 (by decide) rfl rfl (dl0 (by decide)) (by decide) (Nat.le_of_ble_eq_true rfl) ?_
    rintro _ _ ⟨⟨rfl, rfl⟩, L15⟩
    refine r_if_eq (tgt := 58) rfl rfl (fun qc16 => ?_) (fun qc16 => ?_)
    · replace hf := xi_pos hf qc16
      exact XR.forget (L2 := [none, none, none, none]) trivial (kb_j_isText_58 L15 hf)
    · replace hf := xi_neg hf qc16
      refine XS.go (s_aloadn rfl rfl rfl) ?_
      refine XS.go (s_bipush (v := 14) rfl rfl) ?_
      refine XS.go (s_lloadn rfl rfl rfl) ?_
      replace hf := xi_none hf
      obtain ⟨qk17, hf⟩ := hf
      replace hf := xb_some hf
      obtain ⟨r18, e19, hf⟩ := hf
      refine r_callv rfl xvX5_wrong xm5_32 (kf_j_wrong (d := d) L15 e19) qk17.1 qk17.2 (by decide) rfl rfl (dl0 (by decide)) (by decide) (Nat.le_of_ble_eq_true rfl) ?_
      rintro _ _ ⟨⟨rfl, rfl⟩, L20⟩
      refine r_if_eq (tgt := 62) rfl rfl (fun qc21 => ?_) (fun qc21 => ?_)
      · replace hf := xi_pos hf qc21
        refine XS.go (s_iconst (v := 0) rfl rfl) ?_
        cases hf
        exact XR.retz rfl rfl (by decide) (fun hret => ⟨_, hret, ⟨rfl, rfl⟩, L20⟩)
      · replace hf := xi_neg hf qc21
        exact XR.forget (L2 := [none, none, none, none]) trivial (kb_j_isText_58 L20 hf)
  · replace hf := xi_neg hf qc9
    refine XS.go (s_aloadn rfl rfl rfl) ?_
    refine XS.go (s_bipush (v := 13) rfl rfl) ?_
    refine XS.go (s_iloadn rfl rfl rfl) ?_
    refine XS.go (s_i2l rfl) ?_
    replace hf := xb_some hf
    obtain ⟨r22, e23, hf⟩ := hf
    refine r_callv rfl xvX5_wrong xm5_32 (kf_j_wrong (d := d) L7 e23) qk8.1 qk8.2 (by decide) rfl rfl (dl0 (by decide)) (by decide) (Nat.le_of_ble_eq_true rfl) ?_
    rintro _ _ ⟨⟨rfl, rfl⟩, L24⟩
    replace hf := xi_none hf
    obtain ⟨qk25, hf⟩ := hf
    cases hf
    exact XR.retz rfl rfl qk25 (fun hret => ⟨_, hret, ⟨rfl, rfl⟩, L24⟩)
def b_j_isEmptyUnion_55 (h : XH) : Option (Int32 × XH) := (some (1, h))
set_option maxRecDepth 20000 in
theorem kb_j_isEmptyUnion_55 {l : Launch} {G : XG} {d : Nat} {h : XH} {r : Int32 × XH} (L0 : LY h) (hf : b_j_isEmptyUnion_55 h = some r) : XR l G xEX5_isEmptyUnion (d + 2) (55, [none, none, none, none, none], [], h) (fun C => ∃ v, xRet xEX5_isEmptyUnion C v ∧ (C.2.2.2 = r.2 ∧ v = some (.int r.1)) ∧ LY r.2) := by
  unfold b_j_isEmptyUnion_55 at hf
  refine XS.go (s_iconst (v := 1) rfl rfl) ?_
  refine XS.go (s_goto (tgt := 60) rfl rfl) ?_
  cases hf
  exact XR.retz rfl rfl (by decide) (fun hret => ⟨_, hret, ⟨rfl, rfl⟩, L0⟩)
def f_j_isEmptyUnion (t : Nat) (a0 : Int32) (a1 : Int32) (a2 : Nat) (h : XH) : Option (Int32 × XH) := (if a2 < hz h ∧ hk h a2 = 3 then (if t < hz h ∧ hk h t = 5 then (Option.bind (hr h t 1) fun b3 => (if b3 < hz h ∧ hk h b3 = 1 then (Option.bind (f_b_slotNumber b3 a1 ((hi h a2 6) + 1) h) fun r6 => (if r6.1 = 0 then (if a2 < hz r6.2 ∧ hk r6.2 a2 = 3 then (if (hi r6.2 a2 7) = 0 then (b_j_isEmptyUnion_55 r6.2) else (if t < hz r6.2 ∧ hk r6.2 t = 5 then (Option.bind (f_j_wrong t 9 (Int32.toInt64 a0) r6.2) fun r13 => (if r13.1 = 0 then (some (0, r13.2)) else (b_j_isEmptyUnion_55 r13.2))) else none)) else none) else (if t < hz r6.2 ∧ hk r6.2 t = 5 then (Option.bind (f_j_wrong t 12 (Int32.toInt64 ((a1 + 4) + (2 * ((hi h a2 6) + 1)))) r6.2) fun r18 => (if r18.1 = 0 ∨ r18.1 = 1 then (some (r18.1, r18.2)) else none)) else none))) else none)) else none) else none)
set_option maxRecDepth 20000 in
theorem kf_j_isEmptyUnion {l : Launch} {G : XG} {d : Nat} {t : Nat} {a0 : Int32} {a1 : Int32} {a2 : Nat} {h : XH} {r : Int32 × XH} (L0 : LY h) (hf : f_j_isEmptyUnion t a0 a1 a2 h = some r) : XC l G xEX5_isEmptyUnion (d + 2) [.ref t, .int a0, .int a1, .ref a2] h (fun v h2 => (h2 = r.2 ∧ v = some (.int r.1)) ∧ LY r.2) := by
  refine XC.virt xvX5_isEmptyUnion (Nat.le_of_ble_eq_true rfl) ?_
  unfold f_j_isEmptyUnion at hf
  refine XR.norm (L3 := [some (.ref t), some (.int a0), some (.int a1), some (.ref a2), none]) rfl ?_
  refine XS.go (s_aloadn rfl rfl rfl) ?_
  replace hf := xi_none hf
  obtain ⟨qk1, hf⟩ := hf
  refine XS.go (s_getie rfl xf5_103 qk1.1 qk1.2 (by decide) rfl rfl) ?_
  refine XS.go (s_iconst (v := 1) rfl rfl) ?_
  refine XS.go (s_iadd rfl) ?_
  refine XS.go (XS.lcl (L3 := [some (.ref t), some (.int a0), some (.int a1), some (.ref a2), some (.int ((hi h a2 6) + 1))]) (s_istore rfl (Nat.le_of_ble_eq_true rfl)) rfl) ?_
  refine XS.go (s_aloadn rfl rfl rfl) ?_
  replace hf := xi_none hf
  obtain ⟨qk2, hf⟩ := hf
  replace hf := xb_some hf
  obtain ⟨b3, qr4, hf⟩ := hf
  refine XS.go (s_getr rfl xf5_25 qk2.1 qk2.2 (by decide) rfl qr4) ?_
  refine XS.go (s_iloadn rfl rfl rfl) ?_
  refine XS.go (s_iload rfl rfl) ?_
  replace hf := xi_none hf
  obtain ⟨qk5, hf⟩ := hf
  replace hf := xb_some hf
  obtain ⟨r6, e7, hf⟩ := hf
  refine r_callv rfl xvX1_slotNumber xm5_106 (kf_b_slotNumber (d := d) L0 e7) qk5.1 qk5.2 (by decide) rfl rfl (dl (by decide)) (by decide) (Nat.le_of_ble_eq_true rfl) ?_
  rintro _ _ ⟨⟨rfl, rfl⟩, L8⟩
  refine r_if_eq (tgt := 37) rfl rfl (fun qc9 => ?_) (fun qc9 => ?_)
  · replace hf := xi_pos hf qc9
    refine XS.go (s_aloadn rfl rfl rfl) ?_
    replace hf := xi_none hf
    obtain ⟨qk10, hf⟩ := hf
    refine XS.go (s_getze rfl xf5_110 qk10.1 qk10.2 (by decide) rfl rfl) ?_
    refine r_if_eq (tgt := 55) rfl rfl (fun qc11 => ?_) (fun qc11 => ?_)
    · replace hf := xi_pos hf qc11
      exact XR.forget (L2 := [none, none, none, none, none]) trivial (kb_j_isEmptyUnion_55 L8 hf)
    · replace hf := xi_neg hf qc11
      refine XS.go (s_aloadn rfl rfl rfl) ?_
      refine XS.go (s_bipush (v := 9) rfl rfl) ?_
      refine XS.go (s_iloadn rfl rfl rfl) ?_
      refine XS.go (s_i2l rfl) ?_
      replace hf := xi_none hf
      obtain ⟨qk12, hf⟩ := hf
      replace hf := xb_some hf
      obtain ⟨r13, e14, hf⟩ := hf
      refine r_callv rfl xvX5_wrong xm5_32 (kf_j_wrong (d := d) L8 e14) qk12.1 qk12.2 (by decide) rfl rfl (dl0 (by decide)) (by decide) (Nat.le_of_ble_eq_true rfl) ?_
      rintro _ _ ⟨⟨rfl, rfl⟩, L15⟩
      refine r_if_eq (tgt := 59) rfl rfl (fun qc16 => ?_) (fun qc16 => ?_)
      · replace hf := xi_pos hf qc16
        refine XS.go (s_iconst (v := 0) rfl rfl) ?_
        cases hf
        exact XR.retz rfl rfl (by decide) (fun hret => ⟨_, hret, ⟨rfl, rfl⟩, L15⟩)
      · replace hf := xi_neg hf qc16
        exact XR.forget (L2 := [none, none, none, none, none]) trivial (kb_j_isEmptyUnion_55 L15 hf)
  · replace hf := xi_neg hf qc9
    refine XS.go (s_aloadn rfl rfl rfl) ?_
    refine XS.go (s_bipush (v := 12) rfl rfl) ?_
    refine XS.go (s_iloadn rfl rfl rfl) ?_
    refine XS.go (s_iconst (v := 4) rfl rfl) ?_
    refine XS.go (s_iadd rfl) ?_
    refine XS.go (s_iconst (v := 2) rfl rfl) ?_
    refine XS.go (s_iload rfl rfl) ?_
    refine XS.go (s_imul rfl) ?_
    refine XS.go (s_iadd rfl) ?_
    refine XS.go (s_i2l rfl) ?_
    replace hf := xi_none hf
    obtain ⟨qk17, hf⟩ := hf
    replace hf := xb_some hf
    obtain ⟨r18, e19, hf⟩ := hf
    refine r_callv rfl xvX5_wrong xm5_32 (kf_j_wrong (d := d) L8 e19) qk17.1 qk17.2 (by decide) rfl rfl (dl0 (by decide)) (by decide) (Nat.le_of_ble_eq_true rfl) ?_
    rintro _ _ ⟨⟨rfl, rfl⟩, L20⟩
    replace hf := xi_none hf
    obtain ⟨qk21, hf⟩ := hf
    cases hf
    exact XR.retz rfl rfl qk21 (fun hret => ⟨_, hret, ⟨rfl, rfl⟩, L20⟩)
def f_t_isAligned (a0 : Int32) (a1 : Int32) (h : XH) : Option (Int32 × XH) := (if ¬ (a0 &&& (a1 - 1)) = 0 then (some (0, h)) else (some (1, h)))
set_option maxRecDepth 20000 in
theorem kf_t_isAligned {l : Launch} {G : XG} {d : Nat} {a0 : Int32} {a1 : Int32} {h : XH} {r : Int32 × XH} (L0 : LY h) (hf : f_t_isAligned a0 a1 h = some r) : XC l G xEX11_isAligned d [.int a0, .int a1] h (fun v h2 => (h2 = r.2 ∧ v = some (.int r.1)) ∧ LY r.2) := by
  refine XC.stat xsX11_isAligned (Nat.le_of_ble_eq_true rfl) ?_
  unfold f_t_isAligned at hf
  refine XR.norm (L3 := [some (.int a0), some (.int a1)]) rfl ?_
  refine XS.go (s_iloadn rfl rfl rfl) ?_
  refine XS.go (s_iloadn rfl rfl rfl) ?_
  refine XS.go (s_iconst (v := 1) rfl rfl) ?_
  refine XS.go (s_isub rfl) ?_
  refine XS.go (s_iand rfl) ?_
  refine r_if_ne (tgt := 12) rfl rfl (fun qc1 => ?_) (fun qc1 => ?_)
  · replace hf := xi_pos hf qc1
    refine XS.go (s_iconst (v := 0) rfl rfl) ?_
    cases hf
    exact XR.retz rfl rfl (by decide) (fun hret => ⟨_, hret, ⟨rfl, rfl⟩, L0⟩)
  · replace hf := xi_neg hf qc1
    refine XS.go (s_iconst (v := 1) rfl rfl) ?_
    refine XS.go (s_goto (tgt := 13) rfl rfl) ?_
    cases hf
    exact XR.retz rfl rfl (by decide) (fun hret => ⟨_, hret, ⟨rfl, rfl⟩, L0⟩)
def b_j_liesWell_82 (h : XH) : Option (Int32 × XH) := (some (1, h))
set_option maxRecDepth 20000 in
theorem kb_j_liesWell_82 {l : Launch} {G : XG} {d : Nat} {h : XH} {r : Int32 × XH} (L0 : LY h) (hf : b_j_liesWell_82 h = some r) : XR l G xEX5_liesWell (d + 1) (82, [none, none, none, none, none, none, none, none], [], h) (fun C => ∃ v, xRet xEX5_liesWell C v ∧ (C.2.2.2 = r.2 ∧ v = some (.int r.1)) ∧ LY r.2) := by
  unfold b_j_liesWell_82 at hf
  refine XS.go (s_iconst (v := 1) rfl rfl) ?_
  refine XS.go (s_goto (tgt := 87) rfl rfl) ?_
  cases hf
  exact XR.retz rfl rfl (by decide) (fun hret => ⟨_, hret, ⟨rfl, rfl⟩, L0⟩)
def b_j_liesWell_49 (x0 : Nat) (x6 : Int32) (h : XH) : Option (Int32 × XH) := (if x0 < hz h ∧ hk h x0 = 5 then (Option.bind (f_j_wrong x0 10 (Int32.toInt64 x6) h) fun r2 => (if r2.1 = 0 ∨ r2.1 = 1 then (some (r2.1, r2.2)) else none)) else none)
set_option maxRecDepth 20000 in
theorem kb_j_liesWell_49 {l : Launch} {G : XG} {d : Nat} {x0 : Nat} {x6 : Int32} {h : XH} {r : Int32 × XH} (L0 : LY h) (hf : b_j_liesWell_49 x0 x6 h = some r) : XR l G xEX5_liesWell (d + 1) (49, [some (.ref x0), none, none, none, none, none, some (.int x6), none], [], h) (fun C => ∃ v, xRet xEX5_liesWell C v ∧ (C.2.2.2 = r.2 ∧ v = some (.int r.1)) ∧ LY r.2) := by
  unfold b_j_liesWell_49 at hf
  refine XS.go (s_aloadn rfl rfl rfl) ?_
  refine XS.go (s_bipush (v := 10) rfl rfl) ?_
  refine XS.go (s_iload rfl rfl) ?_
  refine XS.go (s_i2l rfl) ?_
  replace hf := xi_none hf
  obtain ⟨qk1, hf⟩ := hf
  replace hf := xb_some hf
  obtain ⟨r2, e3, hf⟩ := hf
  refine r_callv rfl xvX5_wrong xm5_32 (kf_j_wrong (d := d) L0 e3) qk1.1 qk1.2 (by decide) rfl rfl (dl0 (by decide)) (by decide) (Nat.le_of_ble_eq_true rfl) ?_
  rintro _ _ ⟨⟨rfl, rfl⟩, L4⟩
  replace hf := xi_none hf
  obtain ⟨qk5, hf⟩ := hf
  cases hf
  exact XR.retz rfl rfl qk5 (fun hret => ⟨_, hret, ⟨rfl, rfl⟩, L4⟩)
def f_j_liesWell (t : Nat) (a0 : Int32) (a1 : Int32) (a2 : Int32) (a3 : Int32) (a4 : Int32) (h : XH) : Option (Int32 × XH) := (if t < hz h ∧ hk h t = 5 then (Option.bind (hr h t 1) fun b7 => (if b7 < hz h ∧ hk h b7 = 1 then (Option.bind (f_b_number b7 ((a1 + 4) + (2 * a2)) 2 h) fun r10 => (if (Int64.toInt32 r10.1) < 4 then (b_j_liesWell_49 t ((a1 + 4) + (2 * a2)) r10.2) else (if t < hz r10.2 ∧ hk r10.2 t = 5 then (Option.bind (hr r10.2 t 1) fun b15 => (if b15 < hz r10.2 ∧ hk r10.2 b15 = 1 then (Option.bind (f_b_number b15 (a1 + 2) 2 r10.2) fun r18 => (if (lg_cmp (Int32.toInt64 ((Int64.toInt32 r10.1) + a3)) r18.1) ≤ 0 then (Option.bind (f_t_isAligned (a0 + (Int64.toInt32 r10.1)) a4 r18.2) fun r22 => (if ¬ r22.1 = 0 then (b_j_liesWell_82 r22.2) else (if t < hz r22.2 ∧ hk r22.2 t = 5 then (Option.bind (f_j_wrong t 3 (Int32.toInt64 ((a1 + 4) + (2 * a2))) r22.2) fun r27 => (if r27.1 = 0 then (some (0, r27.2)) else (b_j_liesWell_82 r27.2))) else none))) else (b_j_liesWell_49 t ((a1 + 4) + (2 * a2)) r18.2))) else none)) else none))) else none)) else none)
set_option maxRecDepth 20000 in
theorem kf_j_liesWell {l : Launch} {G : XG} {d : Nat} {t : Nat} {a0 : Int32} {a1 : Int32} {a2 : Int32} {a3 : Int32} {a4 : Int32} {h : XH} {r : Int32 × XH} (L0 : LY h) (hf : f_j_liesWell t a0 a1 a2 a3 a4 h = some r) : XC l G xEX5_liesWell (d + 1) [.ref t, .int a0, .int a1, .int a2, .int a3, .int a4] h (fun v h2 => (h2 = r.2 ∧ v = some (.int r.1)) ∧ LY r.2) := by
  refine XC.virt xvX5_liesWell (Nat.le_of_ble_eq_true rfl) ?_
  unfold f_j_liesWell at hf
  refine XR.norm (L3 := [some (.ref t), some (.int a0), some (.int a1), some (.int a2), some (.int a3), some (.int a4), none, none]) rfl ?_
  refine XS.go (s_iloadn rfl rfl rfl) ?_
  refine XS.go (s_iconst (v := 4) rfl rfl) ?_
  refine XS.go (s_iadd rfl) ?_
  refine XS.go (s_iconst (v := 2) rfl rfl) ?_
  refine XS.go (s_iloadn rfl rfl rfl) ?_
  refine XS.go (s_imul rfl) ?_
  refine XS.go (s_iadd rfl) ?_
  refine XS.go (XS.lcl (L3 := [some (.ref t), some (.int a0), some (.int a1), some (.int a2), some (.int a3), some (.int a4), some (.int ((a1 + 4) + (2 * a2))), none]) (s_istore rfl (Nat.le_of_ble_eq_true rfl)) rfl) ?_
  refine XS.go (s_aloadn rfl rfl rfl) ?_
  replace hf := xi_none hf
  obtain ⟨qk6, hf⟩ := hf
  replace hf := xb_some hf
  obtain ⟨b7, qr8, hf⟩ := hf
  refine XS.go (s_getr rfl xf5_25 qk6.1 qk6.2 (by decide) rfl qr8) ?_
  refine XS.go (s_iload rfl rfl) ?_
  refine XS.go (s_iconst (v := 2) rfl rfl) ?_
  replace hf := xi_none hf
  obtain ⟨qk9, hf⟩ := hf
  replace hf := xb_some hf
  obtain ⟨r10, e11, hf⟩ := hf
  refine r_callv rfl xvX1_number xm5_45 (kf_b_number (d := d) L0 e11) qk9.1 qk9.2 (by decide) rfl rfl (dl0 (by decide)) (by decide) (Nat.le_of_ble_eq_true rfl) ?_
  rintro _ _ ⟨⟨rfl, rfl⟩, L12⟩
  refine XS.go (s_l2i rfl) ?_
  refine XS.go (XS.lcl (L3 := [some (.ref t), some (.int a0), some (.int a1), some (.int a2), some (.int a3), some (.int a4), some (.int ((a1 + 4) + (2 * a2))), some (.int (Int64.toInt32 r10.1))]) (s_istore rfl (Nat.le_of_ble_eq_true rfl)) rfl) ?_
  refine XS.go (s_iload rfl rfl) ?_
  refine XS.go (s_iconst (v := 4) rfl rfl) ?_
  refine r_icmp_lt (tgt := 49) rfl rfl (fun qc13 => ?_) (fun qc13 => ?_)
  · replace hf := xi_pos hf qc13
    exact XR.forget (L2 := [some (.ref t), none, none, none, none, none, some (.int ((a1 + 4) + (2 * a2))), none]) ⟨rfl, ⟨rfl, trivial⟩⟩ (kb_j_liesWell_49 L12 hf)
  · replace hf := xi_neg hf qc13
    refine XS.go (s_iload rfl rfl) ?_
    refine XS.go (s_iload rfl rfl) ?_
    refine XS.go (s_iadd rfl) ?_
    refine XS.go (s_i2l rfl) ?_
    refine XS.go (s_aloadn rfl rfl rfl) ?_
    replace hf := xi_none hf
    obtain ⟨qk14, hf⟩ := hf
    replace hf := xb_some hf
    obtain ⟨b15, qr16, hf⟩ := hf
    refine XS.go (s_getr rfl xf5_25 qk14.1 qk14.2 (by decide) rfl qr16) ?_
    refine XS.go (s_iloadn rfl rfl rfl) ?_
    refine XS.go (s_iconst (v := 2) rfl rfl) ?_
    refine XS.go (s_iadd rfl) ?_
    refine XS.go (s_iconst (v := 2) rfl rfl) ?_
    replace hf := xi_none hf
    obtain ⟨qk17, hf⟩ := hf
    replace hf := xb_some hf
    obtain ⟨r18, e19, hf⟩ := hf
    refine r_callv rfl xvX1_number xm5_45 (kf_b_number (d := d) L12 e19) qk17.1 qk17.2 (by decide) rfl rfl (dl0 (by decide)) (by decide) (Nat.le_of_ble_eq_true rfl) ?_
    rintro _ _ ⟨⟨rfl, rfl⟩, L20⟩
    refine XS.go (s_lcmp rfl) ?_
    refine r_if_le (tgt := 59) rfl rfl (fun qc21 => ?_) (fun qc21 => ?_)
    · replace hf := xi_pos hf qc21
      refine XS.go (s_iloadn rfl rfl rfl) ?_
      refine XS.go (s_iload rfl rfl) ?_
      refine XS.go (s_iadd rfl) ?_
      refine XS.go (s_iload rfl rfl) ?_
      replace hf := xb_some hf
      obtain ⟨r22, e23, hf⟩ := hf
      refine r_callsn rfl xsX11_isAligned (List.mem_of_getElem? (i := 11) rfl) (kf_t_isAligned (d := d) L20 e23) rfl rfl (dl0 (by decide)) (by decide) (Nat.le_of_ble_eq_true rfl) ?_
      rintro _ _ ⟨⟨rfl, rfl⟩, L24⟩
      refine r_if_ne (tgt := 82) rfl rfl (fun qc25 => ?_) (fun qc25 => ?_)
      · replace hf := xi_pos hf qc25
        exact XR.forget (L2 := [none, none, none, none, none, none, none, none]) trivial (kb_j_liesWell_82 L24 hf)
      · replace hf := xi_neg hf qc25
        refine XS.go (s_aloadn rfl rfl rfl) ?_
        refine XS.go (s_iconst (v := 3) rfl rfl) ?_
        refine XS.go (s_iload rfl rfl) ?_
        refine XS.go (s_i2l rfl) ?_
        replace hf := xi_none hf
        obtain ⟨qk26, hf⟩ := hf
        replace hf := xb_some hf
        obtain ⟨r27, e28, hf⟩ := hf
        refine r_callv rfl xvX5_wrong xm5_32 (kf_j_wrong (d := d) L24 e28) qk26.1 qk26.2 (by decide) rfl rfl (dl0 (by decide)) (by decide) (Nat.le_of_ble_eq_true rfl) ?_
        rintro _ _ ⟨⟨rfl, rfl⟩, L29⟩
        refine r_if_eq (tgt := 86) rfl rfl (fun qc30 => ?_) (fun qc30 => ?_)
        · replace hf := xi_pos hf qc30
          refine XS.go (s_iconst (v := 0) rfl rfl) ?_
          cases hf
          exact XR.retz rfl rfl (by decide) (fun hret => ⟨_, hret, ⟨rfl, rfl⟩, L29⟩)
        · replace hf := xi_neg hf qc30
          exact XR.forget (L2 := [none, none, none, none, none, none, none, none]) trivial (kb_j_liesWell_82 L29 hf)
    · replace hf := xi_neg hf qc21
      exact XR.forget (L2 := [some (.ref t), none, none, none, none, none, some (.int ((a1 + 4) + (2 * a2))), none]) ⟨rfl, ⟨rfl, trivial⟩⟩ (kb_j_liesWell_49 L20 hf)
def b_j_isList_148 (h : XH) : Option (Int32 × XH) := (some (1, h))
set_option maxRecDepth 20000 in
theorem kb_j_isList_148 {l : Launch} {G : XG} {d : Nat} {h : XH} {r : Int32 × XH} (L0 : LY h) (hf : b_j_isList_148 h = some r) : XR l G xEX5_isList (d + 2) (148, [none, none, none, none, none, none, none, none], [], h) (fun C => ∃ v, xRet xEX5_isList C v ∧ (C.2.2.2 = r.2 ∧ v = some (.int r.1)) ∧ LY r.2) := by
  unfold b_j_isList_148 at hf
  refine XS.go (s_iconst (v := 1) rfl rfl) ?_
  refine XS.go (s_goto (tgt := 153) rfl rfl) ?_
  cases hf
  exact XR.retz rfl rfl (by decide) (fun hret => ⟨_, hret, ⟨rfl, rfl⟩, L0⟩)
def b_j_isList_134 (x0 : Nat) (x2 : Int64) (h : XH) : Option (Int32 × XH) := (if x0 < hz h ∧ hk h x0 = 5 then (Option.bind (f_j_wrong x0 8 (x2 + (2 : Int64)) h) fun r2 => (if r2.1 = 0 then (some (0, r2.2)) else (b_j_isList_148 r2.2))) else none)
set_option maxRecDepth 20000 in
theorem kb_j_isList_134 {l : Launch} {G : XG} {d : Nat} {x0 : Nat} {x2 : Int64} {h : XH} {r : Int32 × XH} (L0 : LY h) (hf : b_j_isList_134 x0 x2 h = some r) : XR l G xEX5_isList (d + 2) (134, [some (.ref x0), none, some (.long x2), none, none, none, none, none], [], h) (fun C => ∃ v, xRet xEX5_isList C v ∧ (C.2.2.2 = r.2 ∧ v = some (.int r.1)) ∧ LY r.2) := by
  unfold b_j_isList_134 at hf
  refine XS.go (s_aloadn rfl rfl rfl) ?_
  refine XS.go (s_bipush (v := 8) rfl rfl) ?_
  refine XS.go (s_lloadn rfl rfl rfl) ?_
  refine XS.go (s_ldc2 rfl (lg_3 229 rfl rfl)) ?_
  refine XS.go (s_ladd rfl) ?_
  replace hf := xi_none hf
  obtain ⟨qk1, hf⟩ := hf
  replace hf := xb_some hf
  obtain ⟨r2, e3, hf⟩ := hf
  refine r_callv rfl xvX5_wrong xm5_32 (kf_j_wrong (d := d) L0 e3) qk1.1 qk1.2 (by decide) rfl rfl (dl0 (by decide)) (by decide) (Nat.le_of_ble_eq_true rfl) ?_
  rintro _ _ ⟨⟨rfl, rfl⟩, L4⟩
  refine r_if_eq (tgt := 152) rfl rfl (fun qc5 => ?_) (fun qc5 => ?_)
  · replace hf := xi_pos hf qc5
    refine XS.go (s_iconst (v := 0) rfl rfl) ?_
    cases hf
    exact XR.retz rfl rfl (by decide) (fun hret => ⟨_, hret, ⟨rfl, rfl⟩, L4⟩)
  · replace hf := xi_neg hf qc5
    exact XR.forget (L2 := [none, none, none, none, none, none, none, none]) trivial (kb_j_isList_148 L4 hf)
def b_j_isList_89 (x0 : Nat) (x2 : Int64) (h : XH) : Option (Int32 × XH) := (if x0 < hz h ∧ hk h x0 = 5 then (Option.bind (f_j_wrong x0 7 x2 h) fun r7 => (if r7.1 = 0 ∨ r7.1 = 1 then (some (r7.1, r7.2)) else none)) else none)
set_option maxRecDepth 20000 in
theorem kb_j_isList_89 {l : Launch} {G : XG} {d : Nat} {x0 : Nat} {x2 : Int64} {h : XH} {r : Int32 × XH} (L0 : LY h) (hf : b_j_isList_89 x0 x2 h = some r) : XR l G xEX5_isList (d + 2) (89, [some (.ref x0), none, some (.long x2), none, none, none, none, none], [], h) (fun C => ∃ v, xRet xEX5_isList C v ∧ (C.2.2.2 = r.2 ∧ v = some (.int r.1)) ∧ LY r.2) := by
  unfold b_j_isList_89 at hf
  refine XS.go (s_aloadn rfl rfl rfl) ?_
  refine XS.go (s_bipush (v := 7) rfl rfl) ?_
  refine XS.go (s_lloadn rfl rfl rfl) ?_
  replace hf := xi_none hf
  obtain ⟨qk6, hf⟩ := hf
  replace hf := xb_some hf
  obtain ⟨r7, e8, hf⟩ := hf
  refine r_callv rfl xvX5_wrong xm5_32 (kf_j_wrong (d := d) L0 e8) qk6.1 qk6.2 (by decide) rfl rfl (dl0 (by decide)) (by decide) (Nat.le_of_ble_eq_true rfl) ?_
  rintro _ _ ⟨⟨rfl, rfl⟩, L9⟩
  replace hf := xi_none hf
  obtain ⟨qk10, hf⟩ := hf
  cases hf
  exact XR.retz rfl rfl qk10 (fun hret => ⟨_, hret, ⟨rfl, rfl⟩, L9⟩)
def b_j_isList_37 (x0 : Nat) (x1 : Int32) (h : XH) : Option (Int32 × XH) := (if x0 < hz h ∧ hk h x0 = 5 then (Option.bind (f_j_wrong x0 6 (Int32.toInt64 x1) h) fun r12 => (if r12.1 = 0 ∨ r12.1 = 1 then (some (r12.1, r12.2)) else none)) else none)
set_option maxRecDepth 20000 in
theorem kb_j_isList_37 {l : Launch} {G : XG} {d : Nat} {x0 : Nat} {x1 : Int32} {h : XH} {r : Int32 × XH} (L0 : LY h) (hf : b_j_isList_37 x0 x1 h = some r) : XR l G xEX5_isList (d + 2) (37, [some (.ref x0), some (.int x1), none, none, none, none, none, none], [], h) (fun C => ∃ v, xRet xEX5_isList C v ∧ (C.2.2.2 = r.2 ∧ v = some (.int r.1)) ∧ LY r.2) := by
  unfold b_j_isList_37 at hf
  refine XS.go (s_aloadn rfl rfl rfl) ?_
  refine XS.go (s_bipush (v := 6) rfl rfl) ?_
  refine XS.go (s_iloadn rfl rfl rfl) ?_
  refine XS.go (s_i2l rfl) ?_
  replace hf := xi_none hf
  obtain ⟨qk11, hf⟩ := hf
  replace hf := xb_some hf
  obtain ⟨r12, e13, hf⟩ := hf
  refine r_callv rfl xvX5_wrong xm5_32 (kf_j_wrong (d := d) L0 e13) qk11.1 qk11.2 (by decide) rfl rfl (dl0 (by decide)) (by decide) (Nat.le_of_ble_eq_true rfl) ?_
  rintro _ _ ⟨⟨rfl, rfl⟩, L14⟩
  replace hf := xi_none hf
  obtain ⟨qk15, hf⟩ := hf
  cases hf
  exact XR.retz rfl rfl qk15 (fun hret => ⟨_, hret, ⟨rfl, rfl⟩, L14⟩)
def f_j_isList (t : Nat) (a0 : Int32) (h : XH) : Option (Int32 × XH) := (if t < hz h ∧ hk h t = 5 then (Option.bind (hr h t 1) fun b17 => (if b17 < hz h ∧ hk h b17 = 1 then (Option.bind (f_b_listOf b17 a0 h) fun r20 => (if (lg_cmp r20.1 (0 : Int64)) < 0 then (b_j_isList_37 t a0 r20.2) else (if ¬ (lg_cmp (r20.1 &&& (1 : Int64)) (0 : Int64)) = 0 then (b_j_isList_37 t a0 r20.2) else (if t < hz r20.2 ∧ hk r20.2 t = 5 then (if (lg_cmp (r20.1 + (4 : Int64)) (Int32.toInt64 (hi r20.2 t 2))) ≤ 0 then (Option.bind (hr r20.2 t 1) fun b27 => (if b27 < hz r20.2 ∧ hk r20.2 b27 = 1 then (Option.bind (f_b_number b27 (Int64.toInt32 r20.1) 2 r20.2) fun r30 => (if (lg_cmp r30.1 (4 : Int64)) < 0 then (b_j_isList_89 t r20.1 r30.2) else (if ¬ (lg_cmp (r30.1 &&& (1 : Int64)) (0 : Int64)) = 0 then (b_j_isList_89 t r20.1 r30.2) else (if t < hz r30.2 ∧ hk r30.2 t = 5 then (if (lg_cmp (r20.1 + r30.1) (Int32.toInt64 (hi r30.2 t 2))) ≤ 0 then (Option.bind (hr r30.2 t 1) fun b37 => (if b37 < hz r30.2 ∧ hk r30.2 b37 = 1 then (Option.bind (f_b_number b37 ((Int64.toInt32 r20.1) + 2) 2 r30.2) fun r40 => (if (lg_cmp r40.1 (4 : Int64)) < 0 then (b_j_isList_134 t r20.1 r40.2) else (if t < hz r40.2 ∧ hk r40.2 t = 5 then (if (lg_cmp ((Int32.toInt64 a0) + r40.1) (Int32.toInt64 (hi r40.2 t 2))) ≤ 0 then (b_j_isList_148 r40.2) else (b_j_isList_134 t r20.1 r40.2)) else none))) else none)) else (b_j_isList_89 t r20.1 r30.2)) else none)))) else none)) else (b_j_isList_37 t a0 r20.2)) else none)))) else none)) else none)
set_option maxRecDepth 20000 in
theorem kf_j_isList {l : Launch} {G : XG} {d : Nat} {t : Nat} {a0 : Int32} {h : XH} {r : Int32 × XH} (L0 : LY h) (hf : f_j_isList t a0 h = some r) : XC l G xEX5_isList (d + 2) [.ref t, .int a0] h (fun v h2 => (h2 = r.2 ∧ v = some (.int r.1)) ∧ LY r.2) := by
  refine XC.virt xvX5_isList (Nat.le_of_ble_eq_true rfl) ?_
  unfold f_j_isList at hf
  refine XR.norm (L3 := [some (.ref t), some (.int a0), none, none, none, none, none, none]) rfl ?_
  refine XS.go (s_aloadn rfl rfl rfl) ?_
  replace hf := xi_none hf
  obtain ⟨qk16, hf⟩ := hf
  replace hf := xb_some hf
  obtain ⟨b17, qr18, hf⟩ := hf
  refine XS.go (s_getr rfl xf5_25 qk16.1 qk16.2 (by decide) rfl qr18) ?_
  refine XS.go (s_iloadn rfl rfl rfl) ?_
  replace hf := xi_none hf
  obtain ⟨qk19, hf⟩ := hf
  replace hf := xb_some hf
  obtain ⟨r20, e21, hf⟩ := hf
  refine r_callv rfl xvX1_listOf xm5_76 (kf_b_listOf (d := d) L0 e21) qk19.1 qk19.2 (by decide) rfl rfl (dl (by decide)) (by decide) (Nat.le_of_ble_eq_true rfl) ?_
  rintro _ _ ⟨⟨rfl, rfl⟩, L22⟩
  refine XS.go (XS.lcl (L3 := [some (.ref t), some (.int a0), some (.long r20.1), none, none, none, none, none]) (s_lstoren rfl rfl (Nat.le_of_ble_eq_true rfl)) rfl) ?_
  refine XS.go (s_lloadn rfl rfl rfl) ?_
  refine XS.go (s_lconst (v := 0) rfl rfl) ?_
  refine XS.go (s_lcmp rfl) ?_
  refine r_if_lt (tgt := 37) rfl rfl (fun qc23 => ?_) (fun qc23 => ?_)
  · replace hf := xi_pos hf qc23
    exact XR.forget (L2 := [some (.ref t), some (.int a0), none, none, none, none, none, none]) ⟨rfl, ⟨rfl, trivial⟩⟩ (kb_j_isList_37 L22 hf)
  · replace hf := xi_neg hf qc23
    refine XS.go (s_lloadn rfl rfl rfl) ?_
    refine XS.go (s_lconst (v := 1) rfl rfl) ?_
    refine XS.go (s_land rfl) ?_
    refine XS.go (s_lconst (v := 0) rfl rfl) ?_
    refine XS.go (s_lcmp rfl) ?_
    refine r_if_ne (tgt := 37) rfl rfl (fun qc24 => ?_) (fun qc24 => ?_)
    · replace hf := xi_pos hf qc24
      exact XR.forget (L2 := [some (.ref t), some (.int a0), none, none, none, none, none, none]) ⟨rfl, ⟨rfl, trivial⟩⟩ (kb_j_isList_37 L22 hf)
    · replace hf := xi_neg hf qc24
      refine XS.go (s_lloadn rfl rfl rfl) ?_
      refine XS.go (s_ldc2 rfl (lg_3 220 rfl rfl)) ?_
      refine XS.go (s_ladd rfl) ?_
      refine XS.go (s_aloadn rfl rfl rfl) ?_
      replace hf := xi_none hf
      obtain ⟨qk25, hf⟩ := hf
      refine XS.go (s_getie rfl xf5_29 qk25.1 qk25.2 (by decide) rfl rfl) ?_
      refine XS.go (s_i2l rfl) ?_
      refine XS.go (s_lcmp rfl) ?_
      refine r_if_le (tgt := 46) rfl rfl (fun qc26 => ?_) (fun qc26 => ?_)
      · replace hf := xi_pos hf qc26
        refine XS.go (s_aloadn rfl rfl rfl) ?_
        replace hf := xb_some hf
        obtain ⟨b27, qr28, hf⟩ := hf
        refine XS.go (s_getr rfl xf5_25 qk25.1 qk25.2 (by decide) rfl qr28) ?_
        refine XS.go (s_lloadn rfl rfl rfl) ?_
        refine XS.go (s_l2i rfl) ?_
        refine XS.go (s_iconst (v := 2) rfl rfl) ?_
        replace hf := xi_none hf
        obtain ⟨qk29, hf⟩ := hf
        replace hf := xb_some hf
        obtain ⟨r30, e31, hf⟩ := hf
        refine r_callv rfl xvX1_number xm5_45 (kf_b_number (d := d) L22 e31) qk29.1 qk29.2 (by decide) rfl rfl (dl0 (by decide)) (by decide) (Nat.le_of_ble_eq_true rfl) ?_
        rintro _ _ ⟨⟨rfl, rfl⟩, L32⟩
        refine XS.go (XS.lcl (L3 := [some (.ref t), some (.int a0), some (.long r20.1), none, some (.long r30.1), none, none, none]) (s_lstore rfl (Nat.le_of_ble_eq_true rfl)) rfl) ?_
        refine XS.go (s_lload rfl rfl) ?_
        refine XS.go (s_ldc2 rfl (lg_3 220 rfl rfl)) ?_
        refine XS.go (s_lcmp rfl) ?_
        refine r_if_lt (tgt := 89) rfl rfl (fun qc33 => ?_) (fun qc33 => ?_)
        · replace hf := xi_pos hf qc33
          exact XR.forget (L2 := [some (.ref t), none, some (.long r20.1), none, none, none, none, none]) ⟨rfl, ⟨rfl, trivial⟩⟩ (kb_j_isList_89 L32 hf)
        · replace hf := xi_neg hf qc33
          refine XS.go (s_lload rfl rfl) ?_
          refine XS.go (s_lconst (v := 1) rfl rfl) ?_
          refine XS.go (s_land rfl) ?_
          refine XS.go (s_lconst (v := 0) rfl rfl) ?_
          refine XS.go (s_lcmp rfl) ?_
          refine r_if_ne (tgt := 89) rfl rfl (fun qc34 => ?_) (fun qc34 => ?_)
          · replace hf := xi_pos hf qc34
            exact XR.forget (L2 := [some (.ref t), none, some (.long r20.1), none, none, none, none, none]) ⟨rfl, ⟨rfl, trivial⟩⟩ (kb_j_isList_89 L32 hf)
          · replace hf := xi_neg hf qc34
            refine XS.go (s_lloadn rfl rfl rfl) ?_
            refine XS.go (s_lload rfl rfl) ?_
            refine XS.go (s_ladd rfl) ?_
            refine XS.go (s_aloadn rfl rfl rfl) ?_
            replace hf := xi_none hf
            obtain ⟨qk35, hf⟩ := hf
            refine XS.go (s_getie rfl xf5_29 qk35.1 qk35.2 (by decide) rfl rfl) ?_
            refine XS.go (s_i2l rfl) ?_
            refine XS.go (s_lcmp rfl) ?_
            refine r_if_le (tgt := 97) rfl rfl (fun qc36 => ?_) (fun qc36 => ?_)
            · replace hf := xi_pos hf qc36
              refine XS.go (s_aloadn rfl rfl rfl) ?_
              replace hf := xb_some hf
              obtain ⟨b37, qr38, hf⟩ := hf
              refine XS.go (s_getr rfl xf5_25 qk35.1 qk35.2 (by decide) rfl qr38) ?_
              refine XS.go (s_lloadn rfl rfl rfl) ?_
              refine XS.go (s_l2i rfl) ?_
              refine XS.go (s_iconst (v := 2) rfl rfl) ?_
              refine XS.go (s_iadd rfl) ?_
              refine XS.go (s_iconst (v := 2) rfl rfl) ?_
              replace hf := xi_none hf
              obtain ⟨qk39, hf⟩ := hf
              replace hf := xb_some hf
              obtain ⟨r40, e41, hf⟩ := hf
              refine r_callv rfl xvX1_number xm5_45 (kf_b_number (d := d) L32 e41) qk39.1 qk39.2 (by decide) rfl rfl (dl0 (by decide)) (by decide) (Nat.le_of_ble_eq_true rfl) ?_
              rintro _ _ ⟨⟨rfl, rfl⟩, L42⟩
              refine XS.go (XS.lcl (L3 := [some (.ref t), some (.int a0), some (.long r20.1), none, some (.long r30.1), none, some (.long r40.1), none]) (s_lstore rfl (Nat.le_of_ble_eq_true rfl)) rfl) ?_
              refine XS.go (s_lload rfl rfl) ?_
              refine XS.go (s_ldc2 rfl (lg_3 220 rfl rfl)) ?_
              refine XS.go (s_lcmp rfl) ?_
              refine r_if_lt (tgt := 134) rfl rfl (fun qc43 => ?_) (fun qc43 => ?_)
              · replace hf := xi_pos hf qc43
                exact XR.forget (L2 := [some (.ref t), none, some (.long r20.1), none, none, none, none, none]) ⟨rfl, ⟨rfl, trivial⟩⟩ (kb_j_isList_134 L42 hf)
              · replace hf := xi_neg hf qc43
                refine XS.go (s_iloadn rfl rfl rfl) ?_
                refine XS.go (s_i2l rfl) ?_
                refine XS.go (s_lload rfl rfl) ?_
                refine XS.go (s_ladd rfl) ?_
                refine XS.go (s_aloadn rfl rfl rfl) ?_
                replace hf := xi_none hf
                obtain ⟨qk44, hf⟩ := hf
                refine XS.go (s_getie rfl xf5_29 qk44.1 qk44.2 (by decide) rfl rfl) ?_
                refine XS.go (s_i2l rfl) ?_
                refine XS.go (s_lcmp rfl) ?_
                refine r_if_le (tgt := 148) rfl rfl (fun qc45 => ?_) (fun qc45 => ?_)
                · replace hf := xi_pos hf qc45
                  exact XR.forget (L2 := [none, none, none, none, none, none, none, none]) trivial (kb_j_isList_148 L42 hf)
                · replace hf := xi_neg hf qc45
                  exact XR.forget (L2 := [some (.ref t), none, some (.long r20.1), none, none, none, none, none]) ⟨rfl, ⟨rfl, trivial⟩⟩ (kb_j_isList_134 L42 hf)
            · replace hf := xi_neg hf qc36
              exact XR.forget (L2 := [some (.ref t), none, some (.long r20.1), none, none, none, none, none]) ⟨rfl, ⟨rfl, trivial⟩⟩ (kb_j_isList_89 L32 hf)
      · replace hf := xi_neg hf qc26
        exact XR.forget (L2 := [some (.ref t), some (.int a0), none, none, none, none, none, none]) ⟨rfl, ⟨rfl, trivial⟩⟩ (kb_j_isList_37 L22 hf)
def b_j_isContent_55 (KT : Nat → Int32 → Int32 → Int32 → XH → Option (Int32 × XH)) (h : XH) : Option (Int32 × XH) := (some (1, h))
set_option maxRecDepth 20000 in
theorem kb_j_isContent_55 {l : Launch} {G : XG} {d : Nat} {KT : Nat → Int32 → Int32 → Int32 → XH → Option (Int32 × XH)} {h : XH} {r : Int32 × XH} (hKT : ∀ (t : Nat) (a0 : Int32) (a1 : Int32) (a2 : Int32) (h : XH) (r : Int32 × XH), LY h → KT t a0 a1 a2 h = some r → XC l G xEX5_isTable d [.ref t, .int a0, .int a1, .int a2] h (fun v h2 => (h2 = r.2 ∧ v = some (.int r.1)) ∧ LY r.2)) (L0 : LY h) (hf : b_j_isContent_55 KT h = some r) : XR l G xEX5_isContent (d + 2) (55, [none, none, none, none, none], [], h) (fun C => ∃ v, xRet xEX5_isContent C v ∧ (C.2.2.2 = r.2 ∧ v = some (.int r.1)) ∧ LY r.2) := by
  unfold b_j_isContent_55 at hf
  refine XS.go (s_iconst (v := 1) rfl rfl) ?_
  refine XS.go (s_goto (tgt := 60) rfl rfl) ?_
  cases hf
  exact XR.retz rfl rfl (by decide) (fun hret => ⟨_, hret, ⟨rfl, rfl⟩, L0⟩)
def f_j_isContent (KT : Nat → Int32 → Int32 → Int32 → XH → Option (Int32 × XH)) (t : Nat) (a0 : Int32) (a1 : Int32) (a2 : Int32) (a3 : Int32) (h : XH) : Option (Int32 × XH) := (if a1 = 0 then (if ¬ a2 = 0 then (b_j_isContent_55 KT h) else (if t < hz h ∧ hk h t = 5 then (Option.bind (hr h t 1) fun b4 => (if b4 < hz h ∧ hk h b4 = 1 then (Option.bind (f_b_octet b4 a0 h) fun r7 => (if r7.1 ≤ 1 then (b_j_isContent_55 KT r7.2) else (if t < hz r7.2 ∧ hk r7.2 t = 5 then (Option.bind (f_j_wrong t 11 (Int32.toInt64 a0) r7.2) fun r12 => (if r12.1 = 0 then (some (0, r12.2)) else (b_j_isContent_55 KT r12.2))) else none))) else none)) else none)) else (if a1 = 1 then (if t < hz h ∧ hk h t = 5 then (Option.bind (f_j_isReference t a0 h) fun r17 => (if r17.1 = 0 then (some (0, r17.2)) else (if t < hz r17.2 ∧ hk r17.2 t = 5 then (Option.bind (hr r17.2 t 1) fun b22 => (if b22 < hz r17.2 ∧ hk r17.2 b22 = 1 then (Option.bind (f_b_behind b22 a0 r17.2) fun r25 => (if t < hz r25.2 ∧ hk r25.2 t = 5 then (Option.bind (f_j_isText t r25.1 r25.2) fun r29 => (if r29.1 = 0 then (some (0, r29.2)) else (some (1, r29.2)))) else none)) else none)) else none))) else none) else (if a1 = 2 then (if t < hz h ∧ hk h t = 5 then (Option.bind (hr h t 0) fun b34 => (if b34 < hz h ∧ hk h b34 = 9 then (Option.bind (hr h b34 0) fun b37 => (if b37 < hz h ∧ hk h b37 = 4 then (Option.bind (f_g_at b37 a2 h) fun r40 => (if t < hz r40.2 ∧ hk r40.2 t = 5 then (Option.bind (r40.1) fun b44 => (Option.bind (f_j_isStruct t a0 b44 r40.2) fun r46 => (if r46.1 = 0 ∨ r46.1 = 1 then (some (r46.1, r46.2)) else none))) else none)) else none)) else none)) else none) else (if t < hz h ∧ hk h t = 5 then (Option.bind (KT t a0 a2 (a3 + 1) h) fun r51 => (if r51.1 = 0 ∨ r51.1 = 1 then (some (r51.1, r51.2)) else none)) else none))))
set_option maxRecDepth 20000 in
theorem kf_j_isContent {l : Launch} {G : XG} {d : Nat} {KT : Nat → Int32 → Int32 → Int32 → XH → Option (Int32 × XH)} {t : Nat} {a0 : Int32} {a1 : Int32} {a2 : Int32} {a3 : Int32} {h : XH} {r : Int32 × XH} (hKT : ∀ (t : Nat) (a0 : Int32) (a1 : Int32) (a2 : Int32) (h : XH) (r : Int32 × XH), LY h → KT t a0 a1 a2 h = some r → XC l G xEX5_isTable d [.ref t, .int a0, .int a1, .int a2] h (fun v h2 => (h2 = r.2 ∧ v = some (.int r.1)) ∧ LY r.2)) (L0 : LY h) (hf : f_j_isContent KT t a0 a1 a2 a3 h = some r) : XC l G xEX5_isContent (d + 2) [.ref t, .int a0, .int a1, .int a2, .int a3] h (fun v h2 => (h2 = r.2 ∧ v = some (.int r.1)) ∧ LY r.2) := by
  refine XC.virt xvX5_isContent (Nat.le_of_ble_eq_true rfl) ?_
  unfold f_j_isContent at hf
  refine XR.norm (L3 := [some (.ref t), some (.int a0), some (.int a1), some (.int a2), some (.int a3)]) rfl ?_
  refine XS.go (s_iloadn rfl rfl rfl) ?_
  by_cases qs1_0 : a1 = 0
  · replace hf := xi_pos hf qs1_0
    refine XS.go (s_tswI (tgt := 28) rfl (by rw [qs1_0]; decide) (by rw [qs1_0]; decide) (by rw [qs1_0]; rfl) rfl) ?_
    refine XS.go (s_iloadn rfl rfl rfl) ?_
    refine r_if_ne (tgt := 55) rfl rfl (fun qc2 => ?_) (fun qc2 => ?_)
    · replace hf := xi_pos hf qc2
      exact XR.forget (L2 := [none, none, none, none, none]) trivial (kb_j_isContent_55 hKT L0 hf)
    · replace hf := xi_neg hf qc2
      refine XS.go (s_aloadn rfl rfl rfl) ?_
      replace hf := xi_none hf
      obtain ⟨qk3, hf⟩ := hf
      replace hf := xb_some hf
      obtain ⟨b4, qr5, hf⟩ := hf
      refine XS.go (s_getr rfl xf5_25 qk3.1 qk3.2 (by decide) rfl qr5) ?_
      refine XS.go (s_iloadn rfl rfl rfl) ?_
      replace hf := xi_none hf
      obtain ⟨qk6, hf⟩ := hf
      replace hf := xb_some hf
      obtain ⟨r7, e8, hf⟩ := hf
      refine r_callv rfl xvX1_octet xm5_143 (kf_b_octet (d := d) L0 e8) qk6.1 qk6.2 (by decide) rfl rfl (dl0 (by decide)) (by decide) (Nat.le_of_ble_eq_true rfl) ?_
      rintro _ _ ⟨⟨rfl, rfl⟩, L9⟩
      refine XS.go (s_iconst (v := 1) rfl rfl) ?_
      refine r_icmp_le (tgt := 55) rfl rfl (fun qc10 => ?_) (fun qc10 => ?_)
      · replace hf := xi_pos hf qc10
        exact XR.forget (L2 := [none, none, none, none, none]) trivial (kb_j_isContent_55 hKT L9 hf)
      · replace hf := xi_neg hf qc10
        refine XS.go (s_aloadn rfl rfl rfl) ?_
        refine XS.go (s_bipush (v := 11) rfl rfl) ?_
        refine XS.go (s_iloadn rfl rfl rfl) ?_
        refine XS.go (s_i2l rfl) ?_
        replace hf := xi_none hf
        obtain ⟨qk11, hf⟩ := hf
        replace hf := xb_some hf
        obtain ⟨r12, e13, hf⟩ := hf
        refine r_callv rfl xvX5_wrong xm5_32 (kf_j_wrong (d := d) L9 e13) qk11.1 qk11.2 (by decide) rfl rfl (dl0 (by decide)) (by decide) (Nat.le_of_ble_eq_true rfl) ?_
        rintro _ _ ⟨⟨rfl, rfl⟩, L14⟩
        refine r_if_eq (tgt := 59) rfl rfl (fun qc15 => ?_) (fun qc15 => ?_)
        · replace hf := xi_pos hf qc15
          refine XS.go (s_iconst (v := 0) rfl rfl) ?_
          cases hf
          exact XR.retz rfl rfl (by decide) (fun hret => ⟨_, hret, ⟨rfl, rfl⟩, L14⟩)
        · replace hf := xi_neg hf qc15
          exact XR.forget (L2 := [none, none, none, none, none]) trivial (kb_j_isContent_55 hKT L14 hf)
  replace hf := xi_neg hf qs1_0
  by_cases qs1_1 : a1 = 1
  · replace hf := xi_pos hf qs1_1
    refine XS.go (s_tswI (tgt := 61) rfl (by rw [qs1_1]; decide) (by rw [qs1_1]; decide) (by rw [qs1_1]; rfl) rfl) ?_
    refine XS.go (s_aloadn rfl rfl rfl) ?_
    refine XS.go (s_iloadn rfl rfl rfl) ?_
    replace hf := xi_none hf
    obtain ⟨qk16, hf⟩ := hf
    replace hf := xb_some hf
    obtain ⟨r17, e18, hf⟩ := hf
    refine r_callv rfl xvX5_isReference xm5_55 (kf_j_isReference (d := d) L0 e18) qk16.1 qk16.2 (by decide) rfl rfl (dl (by decide)) (by decide) (Nat.le_of_ble_eq_true rfl) ?_
    rintro _ _ ⟨⟨rfl, rfl⟩, L19⟩
    refine r_if_eq (tgt := 88) rfl rfl (fun qc20 => ?_) (fun qc20 => ?_)
    · replace hf := xi_pos hf qc20
      refine XS.go (s_iconst (v := 0) rfl rfl) ?_
      cases hf
      exact XR.retz rfl rfl (by decide) (fun hret => ⟨_, hret, ⟨rfl, rfl⟩, L19⟩)
    · replace hf := xi_neg hf qc20
      refine XS.go (s_aloadn rfl rfl rfl) ?_
      refine XS.go (s_aloadn rfl rfl rfl) ?_
      replace hf := xi_none hf
      obtain ⟨qk21, hf⟩ := hf
      replace hf := xb_some hf
      obtain ⟨b22, qr23, hf⟩ := hf
      refine XS.go (s_getr rfl xf5_25 qk21.1 qk21.2 (by decide) rfl qr23) ?_
      refine XS.go (s_iloadn rfl rfl rfl) ?_
      replace hf := xi_none hf
      obtain ⟨qk24, hf⟩ := hf
      replace hf := xb_some hf
      obtain ⟨r25, e26, hf⟩ := hf
      refine r_callv rfl xvX1_behind xm5_59 (kf_b_behind (d := d) L19 e26) qk24.1 qk24.2 (by decide) rfl rfl (dl (by decide)) (by decide) (Nat.le_of_ble_eq_true rfl) ?_
      rintro _ _ ⟨⟨rfl, rfl⟩, L27⟩
      replace hf := xi_none hf
      obtain ⟨qk28, hf⟩ := hf
      replace hf := xb_some hf
      obtain ⟨r29, e30, hf⟩ := hf
      refine r_callv rfl xvX5_isText xm5_153 (kf_j_isText (d := d) L27 e30) qk28.1 qk28.2 (by decide) rfl rfl (dl (by decide)) (by decide) (Nat.le_of_ble_eq_true rfl) ?_
      rintro _ _ ⟨⟨rfl, rfl⟩, L31⟩
      refine r_if_eq (tgt := 88) rfl rfl (fun qc32 => ?_) (fun qc32 => ?_)
      · replace hf := xi_pos hf qc32
        refine XS.go (s_iconst (v := 0) rfl rfl) ?_
        cases hf
        exact XR.retz rfl rfl (by decide) (fun hret => ⟨_, hret, ⟨rfl, rfl⟩, L31⟩)
      · replace hf := xi_neg hf qc32
        refine XS.go (s_iconst (v := 1) rfl rfl) ?_
        refine XS.go (s_goto (tgt := 89) rfl rfl) ?_
        cases hf
        exact XR.retz rfl rfl (by decide) (fun hret => ⟨_, hret, ⟨rfl, rfl⟩, L31⟩)
  replace hf := xi_neg hf qs1_1
  by_cases qs1_2 : a1 = 2
  · replace hf := xi_pos hf qs1_2
    refine XS.go (s_tswI (tgt := 90) rfl (by rw [qs1_2]; decide) (by rw [qs1_2]; decide) (by rw [qs1_2]; rfl) rfl) ?_
    refine XS.go (s_aloadn rfl rfl rfl) ?_
    refine XS.go (s_iloadn rfl rfl rfl) ?_
    refine XS.go (s_aloadn rfl rfl rfl) ?_
    replace hf := xi_none hf
    obtain ⟨qk33, hf⟩ := hf
    replace hf := xb_some hf
    obtain ⟨b34, qr35, hf⟩ := hf
    refine XS.go (s_getr rfl xf5_21 qk33.1 qk33.2 (by decide) rfl qr35) ?_
    replace hf := xi_none hf
    obtain ⟨qk36, hf⟩ := hf
    replace hf := xb_some hf
    obtain ⟨b37, qr38, hf⟩ := hf
    refine XS.go (s_getr rfl xf5_156 qk36.1 qk36.2 (by decide) rfl qr38) ?_
    refine XS.go (s_iloadn rfl rfl rfl) ?_
    replace hf := xi_none hf
    obtain ⟨qk39, hf⟩ := hf
    replace hf := xb_some hf
    obtain ⟨r40, e41, hf⟩ := hf
    refine r_callv rfl xvX4_at xm5_67 (kf_g_at (d := d) L0 e41) qk39.1 qk39.2 (by decide) rfl rfl (dl0 (by decide)) (by decide) (Nat.le_of_ble_eq_true rfl) ?_
    rintro _ _ ⟨⟨rfl, rfl⟩, L42⟩
    replace hf := xi_none hf
    obtain ⟨qk43, hf⟩ := hf
    replace hf := xb_some hf
    obtain ⟨b44, qo45, hf⟩ := hf
    try rw [qo45]
    replace hf := xb_some hf
    obtain ⟨r46, e47, hf⟩ := hf
    refine r_callv rfl xvX5_isStruct xm5_159 (kf_j_isStruct (d := d) L42 e47) qk43.1 qk43.2 (by decide) rfl rfl (dl (by decide)) (by decide) (Nat.le_of_ble_eq_true rfl) ?_
    rintro _ _ ⟨⟨rfl, rfl⟩, L48⟩
    replace hf := xi_none hf
    obtain ⟨qk49, hf⟩ := hf
    cases hf
    exact XR.retz rfl rfl qk49 (fun hret => ⟨_, hret, ⟨rfl, rfl⟩, L48⟩)
  replace hf := xi_neg hf qs1_2
  have qs1_o : (a1).toInt < 0 ∨ 2 < (a1).toInt := by
    refine tsw_out 0 2 (by decide) ?_
    intro k h1 h2
    have z : k = 0 ∨ k = 1 ∨ k = 2 := by omega
    rcases z with rfl | rfl | rfl
    · exact qs1_0
    · exact qs1_1
    · exact qs1_2
  refine XS.go (s_tswO (tgt := 107) rfl qs1_o rfl) ?_
  refine XS.go (s_aloadn rfl rfl rfl) ?_
  refine XS.go (s_iloadn rfl rfl rfl) ?_
  refine XS.go (s_iloadn rfl rfl rfl) ?_
  refine XS.go (s_iload rfl rfl) ?_
  refine XS.go (s_iconst (v := 1) rfl rfl) ?_
  refine XS.go (s_iadd rfl) ?_
  replace hf := xi_none hf
  obtain ⟨qk50, hf⟩ := hf
  replace hf := xb_some hf
  obtain ⟨r51, e52, hf⟩ := hf
  refine r_callv rfl xvX5_isTable xm5_41 (hKT t a0 a2 (a3 + 1) h r51 L0 e52) qk50.1 qk50.2 (by decide) rfl rfl (dl0 (by decide)) (by decide) (Nat.le_of_ble_eq_true rfl) ?_
  rintro _ _ ⟨⟨rfl, rfl⟩, L53⟩
  replace hf := xi_none hf
  obtain ⟨qk54, hf⟩ := hf
  cases hf
  exact XR.retz rfl rfl qk54 (fun hret => ⟨_, hret, ⟨rfl, rfl⟩, L53⟩)
def f_j_isMember (KT : Nat → Int32 → Int32 → Int32 → XH → Option (Int32 × XH)) (t : Nat) (a0 : Int32) (a1 : Int32) (a2 : Int32) (a3 : Int32) (a4 : Int32) (h : XH) : Option (Int32 × XH) := (if t < hz h ∧ hk h t = 5 then (Option.bind (hr h t 1) fun b2 => (if b2 < hz h ∧ hk h b2 = 1 then (Option.bind (f_b_slotNumber b2 a1 a2 h) fun r5 => (if ¬ r5.1 = 0 then (if t < hz r5.2 ∧ hk r5.2 t = 5 then (Option.bind (f_j_liesWell t a0 a1 a2 4 4 r5.2) fun r10 => (if r10.1 = 0 then (some (0, r10.2)) else (if t < hz r10.2 ∧ hk r10.2 t = 5 then (Option.bind (KT t (a0 + r5.1) a3 (a4 + 1) r10.2) fun r15 => (if r15.1 = 0 then (some (0, r15.2)) else (some (1, r15.2)))) else none))) else none) else (if t < hz r5.2 ∧ hk r5.2 t = 5 then (Option.bind (f_j_wrong t 9 (Int32.toInt64 a0) r5.2) fun r20 => (if r20.1 = 0 ∨ r20.1 = 1 then (some (r20.1, r20.2)) else none)) else none))) else none)) else none)
set_option maxRecDepth 20000 in
theorem kf_j_isMember {l : Launch} {G : XG} {d : Nat} {KT : Nat → Int32 → Int32 → Int32 → XH → Option (Int32 × XH)} {t : Nat} {a0 : Int32} {a1 : Int32} {a2 : Int32} {a3 : Int32} {a4 : Int32} {h : XH} {r : Int32 × XH} (hKT : ∀ (t : Nat) (a0 : Int32) (a1 : Int32) (a2 : Int32) (h : XH) (r : Int32 × XH), LY h → KT t a0 a1 a2 h = some r → XC l G xEX5_isTable d [.ref t, .int a0, .int a1, .int a2] h (fun v h2 => (h2 = r.2 ∧ v = some (.int r.1)) ∧ LY r.2)) (L0 : LY h) (hf : f_j_isMember KT t a0 a1 a2 a3 a4 h = some r) : XC l G xEX5_isMember (d + 2) [.ref t, .int a0, .int a1, .int a2, .int a3, .int a4] h (fun v h2 => (h2 = r.2 ∧ v = some (.int r.1)) ∧ LY r.2) := by
  refine XC.virt xvX5_isMember (Nat.le_of_ble_eq_true rfl) ?_
  unfold f_j_isMember at hf
  refine XR.norm (L3 := [some (.ref t), some (.int a0), some (.int a1), some (.int a2), some (.int a3), some (.int a4), none]) rfl ?_
  refine XS.go (s_aloadn rfl rfl rfl) ?_
  replace hf := xi_none hf
  obtain ⟨qk1, hf⟩ := hf
  replace hf := xb_some hf
  obtain ⟨b2, qr3, hf⟩ := hf
  refine XS.go (s_getr rfl xf5_25 qk1.1 qk1.2 (by decide) rfl qr3) ?_
  refine XS.go (s_iloadn rfl rfl rfl) ?_
  refine XS.go (s_iloadn rfl rfl rfl) ?_
  replace hf := xi_none hf
  obtain ⟨qk4, hf⟩ := hf
  replace hf := xb_some hf
  obtain ⟨r5, e6, hf⟩ := hf
  refine r_callv rfl xvX1_slotNumber xm5_106 (kf_b_slotNumber (d := d) L0 e6) qk4.1 qk4.2 (by decide) rfl rfl (dl (by decide)) (by decide) (Nat.le_of_ble_eq_true rfl) ?_
  rintro _ _ ⟨⟨rfl, rfl⟩, L7⟩
  refine XS.go (XS.lcl (L3 := [some (.ref t), some (.int a0), some (.int a1), some (.int a2), some (.int a3), some (.int a4), some (.int r5.1)]) (s_istore rfl (Nat.le_of_ble_eq_true rfl)) rfl) ?_
  refine XS.go (s_iload rfl rfl) ?_
  refine r_if_ne (tgt := 25) rfl rfl (fun qc8 => ?_) (fun qc8 => ?_)
  · replace hf := xi_pos hf qc8
    refine XS.go (s_aloadn rfl rfl rfl) ?_
    refine XS.go (s_iloadn rfl rfl rfl) ?_
    refine XS.go (s_iloadn rfl rfl rfl) ?_
    refine XS.go (s_iloadn rfl rfl rfl) ?_
    refine XS.go (s_iconst (v := 4) rfl rfl) ?_
    refine XS.go (s_iconst (v := 4) rfl rfl) ?_
    replace hf := xi_none hf
    obtain ⟨qk9, hf⟩ := hf
    replace hf := xb_some hf
    obtain ⟨r10, e11, hf⟩ := hf
    refine r_callv rfl xvX5_liesWell xm5_122 (kf_j_liesWell (d := d) L7 e11) qk9.1 qk9.2 (by decide) rfl rfl (dl (by decide)) (by decide) (Nat.le_of_ble_eq_true rfl) ?_
    rintro _ _ ⟨⟨rfl, rfl⟩, L12⟩
    refine r_if_eq (tgt := 58) rfl rfl (fun qc13 => ?_) (fun qc13 => ?_)
    · replace hf := xi_pos hf qc13
      refine XS.go (s_iconst (v := 0) rfl rfl) ?_
      cases hf
      exact XR.retz rfl rfl (by decide) (fun hret => ⟨_, hret, ⟨rfl, rfl⟩, L12⟩)
    · replace hf := xi_neg hf qc13
      refine XS.go (s_aloadn rfl rfl rfl) ?_
      refine XS.go (s_iloadn rfl rfl rfl) ?_
      refine XS.go (s_iload rfl rfl) ?_
      refine XS.go (s_iadd rfl) ?_
      refine XS.go (s_iload rfl rfl) ?_
      refine XS.go (s_iload rfl rfl) ?_
      refine XS.go (s_iconst (v := 1) rfl rfl) ?_
      refine XS.go (s_iadd rfl) ?_
      replace hf := xi_none hf
      obtain ⟨qk14, hf⟩ := hf
      replace hf := xb_some hf
      obtain ⟨r15, e16, hf⟩ := hf
      refine r_callv rfl xvX5_isTable xm5_41 (hKT t (a0 + r5.1) a3 (a4 + 1) r10.2 r15 L12 e16) qk14.1 qk14.2 (by decide) rfl rfl (dl0 (by decide)) (by decide) (Nat.le_of_ble_eq_true rfl) ?_
      rintro _ _ ⟨⟨rfl, rfl⟩, L17⟩
      refine r_if_eq (tgt := 58) rfl rfl (fun qc18 => ?_) (fun qc18 => ?_)
      · replace hf := xi_pos hf qc18
        refine XS.go (s_iconst (v := 0) rfl rfl) ?_
        cases hf
        exact XR.retz rfl rfl (by decide) (fun hret => ⟨_, hret, ⟨rfl, rfl⟩, L17⟩)
      · replace hf := xi_neg hf qc18
        refine XS.go (s_iconst (v := 1) rfl rfl) ?_
        refine XS.go (s_goto (tgt := 59) rfl rfl) ?_
        cases hf
        exact XR.retz rfl rfl (by decide) (fun hret => ⟨_, hret, ⟨rfl, rfl⟩, L17⟩)
  · replace hf := xi_neg hf qc8
    refine XS.go (s_aloadn rfl rfl rfl) ?_
    refine XS.go (s_bipush (v := 9) rfl rfl) ?_
    refine XS.go (s_iloadn rfl rfl rfl) ?_
    refine XS.go (s_i2l rfl) ?_
    replace hf := xi_none hf
    obtain ⟨qk19, hf⟩ := hf
    replace hf := xb_some hf
    obtain ⟨r20, e21, hf⟩ := hf
    refine r_callv rfl xvX5_wrong xm5_32 (kf_j_wrong (d := d) L7 e21) qk19.1 qk19.2 (by decide) rfl rfl (dl0 (by decide)) (by decide) (Nat.le_of_ble_eq_true rfl) ?_
    rintro _ _ ⟨⟨rfl, rfl⟩, L22⟩
    replace hf := xi_none hf
    obtain ⟨qk23, hf⟩ := hf
    cases hf
    exact XR.retz rfl rfl qk23 (fun hret => ⟨_, hret, ⟨rfl, rfl⟩, L22⟩)
def b_j_isUnion_79 (KT : Nat → Int32 → Int32 → Int32 → XH → Option (Int32 × XH)) (x0 : Nat) (x1 : Int32) (x2 : Int32) (x3 : Nat) (x4 : Int32) (x5 : Option Nat) (x6 : Int32) (y0 : Int32) (h : XH) : Option (Int32 × XH) := (Option.bind (x5) fun b1 => (if b1 < hz h ∧ hk h b1 = 2 then (if y0 ≤ (hi h b1 3) then (Option.bind (f_d_fieldAt b1 (y0 - 1) h) fun r5 => (Option.elim (r5.1) (if x0 < hz r5.2 ∧ hk r5.2 x0 = 5 then (Option.bind (f_j_isEmptyUnion x0 x1 x2 x3 r5.2) fun r11 => (if r11.1 = 0 ∨ r11.1 = 1 then (some (r11.1, r11.2)) else none)) else none) fun b9 => (if x3 < hz r5.2 ∧ hk r5.2 x3 = 3 then (if b9 < hz r5.2 ∧ hk r5.2 b9 = 3 then (if x0 < hz r5.2 ∧ hk r5.2 x0 = 5 then (Option.bind (f_j_isMember KT x0 x1 x2 ((hi r5.2 x3 6) + 1) (hi r5.2 b9 4) x4 r5.2) fun r18 => (if r18.1 = 0 ∨ r18.1 = 1 then (some (r18.1, r18.2)) else none)) else none) else none) else none))) else (if x0 < hz h ∧ hk h x0 = 5 then (Option.bind (f_j_wrong x0 12 (Int32.toInt64 (x1 + x6)) h) fun r23 => (if r23.1 = 0 ∨ r23.1 = 1 then (some (r23.1, r23.2)) else none)) else none)) else none))
set_option maxRecDepth 20000 in
theorem kb_j_isUnion_79 {l : Launch} {G : XG} {d : Nat} {KT : Nat → Int32 → Int32 → Int32 → XH → Option (Int32 × XH)} {x0 : Nat} {x1 : Int32} {x2 : Int32} {x3 : Nat} {x4 : Int32} {x5 : Option Nat} {x6 : Int32} {y0 : Int32} {h : XH} {r : Int32 × XH} (hKT : ∀ (t : Nat) (a0 : Int32) (a1 : Int32) (a2 : Int32) (h : XH) (r : Int32 × XH), LY h → KT t a0 a1 a2 h = some r → XC l G xEX5_isTable d [.ref t, .int a0, .int a1, .int a2] h (fun v h2 => (h2 = r.2 ∧ v = some (.int r.1)) ∧ LY r.2)) (L0 : LY h) (hf : b_j_isUnion_79 KT x0 x1 x2 x3 x4 x5 x6 y0 h = some r) : XR l G xEX5_isUnion (d + 3) (79, [some (.ref x0), some (.int x1), some (.int x2), some (.ref x3), some (.int x4), some (va_rf x5), some (.int x6), none, none], [(.int y0)], h) (fun C => ∃ v, xRet xEX5_isUnion C v ∧ (C.2.2.2 = r.2 ∧ v = some (.int r.1)) ∧ LY r.2) := by
  unfold b_j_isUnion_79 at hf
  refine XS.go (XS.lcl (L3 := [some (.ref x0), some (.int x1), some (.int x2), some (.ref x3), some (.int x4), some (va_rf x5), some (.int x6), some (.int y0), none]) (s_istore rfl (Nat.le_of_ble_eq_true rfl)) rfl) ?_
  refine XS.go (s_iload rfl rfl) ?_
  refine XS.go (s_aloadO rfl rfl) ?_
  replace hf := xb_some hf
  obtain ⟨b1, qo2, hf⟩ := hf
  try rw [qo2]
  replace hf := xi_none hf
  obtain ⟨qk3, hf⟩ := hf
  refine XS.go (s_getie rfl xf5_80 qk3.1 qk3.2 (by decide) rfl rfl) ?_
  refine r_icmp_le (tgt := 103) rfl rfl (fun qc4 => ?_) (fun qc4 => ?_)
  · replace hf := xi_pos hf qc4
    refine XS.go (s_aload rfl rfl) ?_
    refine XS.go (s_iload rfl rfl) ?_
    refine XS.go (s_iconst (v := 1) rfl rfl) ?_
    refine XS.go (s_isub rfl) ?_
    replace hf := xb_some hf
    obtain ⟨r5, e6, hf⟩ := hf
    refine r_callv rfl xvX2_fieldAt xm5_85 (kf_d_fieldAt (d := d) L0 e6) qk3.1 qk3.2 (by decide) rfl rfl (dl0 (by decide)) (by decide) (Nat.le_of_ble_eq_true rfl) ?_
    rintro _ _ ⟨⟨rfl, rfl⟩, L7⟩
    refine XS.go (XS.lcl (L3 := [some (.ref x0), some (.int x1), some (.int x2), some (.ref x3), some (.int x4), some (.ref b1), some (.int x6), some (.int y0), some (va_rf r5.1)]) (s_astoreO rfl (Nat.le_of_ble_eq_true rfl)) rfl) ?_
    refine XS.go (s_aloadO rfl rfl) ?_
    refine r_ifnonnull (tgt := 127) rfl rfl (fun qn8 => ?_) (fun b9 qn8 => ?_)
    · replace hf := xo_none hf qn8
      try rw [qn8]
      refine XS.go (s_aloadn rfl rfl rfl) ?_
      refine XS.go (s_iloadn rfl rfl rfl) ?_
      refine XS.go (s_iloadn rfl rfl rfl) ?_
      refine XS.go (s_aloadn rfl rfl rfl) ?_
      replace hf := xi_none hf
      obtain ⟨qk10, hf⟩ := hf
      replace hf := xb_some hf
      obtain ⟨r11, e12, hf⟩ := hf
      refine r_callv rfl xvX5_isEmptyUnion xm5_146 (kf_j_isEmptyUnion (d := d) L7 e12) qk10.1 qk10.2 (by decide) rfl rfl (dl (by decide)) (by decide) (Nat.le_of_ble_eq_true rfl) ?_
      rintro _ _ ⟨⟨rfl, rfl⟩, L13⟩
      replace hf := xi_none hf
      obtain ⟨qk14, hf⟩ := hf
      cases hf
      exact XR.retz rfl rfl qk14 (fun hret => ⟨_, hret, ⟨rfl, rfl⟩, L13⟩)
    · replace hf := xo_some hf qn8
      try rw [qn8]
      refine XS.go (s_aloadn rfl rfl rfl) ?_
      refine XS.go (s_iloadn rfl rfl rfl) ?_
      refine XS.go (s_iloadn rfl rfl rfl) ?_
      refine XS.go (s_aloadn rfl rfl rfl) ?_
      replace hf := xi_none hf
      obtain ⟨qk15, hf⟩ := hf
      refine XS.go (s_getie rfl xf5_103 qk15.1 qk15.2 (by decide) rfl rfl) ?_
      refine XS.go (s_iconst (v := 1) rfl rfl) ?_
      refine XS.go (s_iadd rfl) ?_
      refine XS.go (s_aload rfl rfl) ?_
      replace hf := xi_none hf
      obtain ⟨qk16, hf⟩ := hf
      refine XS.go (s_getie rfl xf5_114 qk16.1 qk16.2 (by decide) rfl rfl) ?_
      refine XS.go (s_iload rfl rfl) ?_
      replace hf := xi_none hf
      obtain ⟨qk17, hf⟩ := hf
      replace hf := xb_some hf
      obtain ⟨r18, e19, hf⟩ := hf
      refine r_callv rfl xvX5_isMember xm5_150 (kf_j_isMember (d := d) hKT L7 e19) qk17.1 qk17.2 (by decide) rfl rfl (dl (by decide)) (by decide) (Nat.le_of_ble_eq_true rfl) ?_
      rintro _ _ ⟨⟨rfl, rfl⟩, L20⟩
      replace hf := xi_none hf
      obtain ⟨qk21, hf⟩ := hf
      cases hf
      exact XR.retz rfl rfl qk21 (fun hret => ⟨_, hret, ⟨rfl, rfl⟩, L20⟩)
  · replace hf := xi_neg hf qc4
    refine XS.go (s_aloadn rfl rfl rfl) ?_
    refine XS.go (s_bipush (v := 12) rfl rfl) ?_
    refine XS.go (s_iloadn rfl rfl rfl) ?_
    refine XS.go (s_iload rfl rfl) ?_
    refine XS.go (s_iadd rfl) ?_
    refine XS.go (s_i2l rfl) ?_
    replace hf := xi_none hf
    obtain ⟨qk22, hf⟩ := hf
    replace hf := xb_some hf
    obtain ⟨r23, e24, hf⟩ := hf
    refine r_callv rfl xvX5_wrong xm5_32 (kf_j_wrong (d := d) L0 e24) qk22.1 qk22.2 (by decide) rfl rfl (dl0 (by decide)) (by decide) (Nat.le_of_ble_eq_true rfl) ?_
    rintro _ _ ⟨⟨rfl, rfl⟩, L25⟩
    replace hf := xi_none hf
    obtain ⟨qk26, hf⟩ := hf
    cases hf
    exact XR.retz rfl rfl qk26 (fun hret => ⟨_, hret, ⟨rfl, rfl⟩, L25⟩)
def b_j_isUnion_59 (KT : Nat → Int32 → Int32 → Int32 → XH → Option (Int32 × XH)) (x0 : Nat) (x1 : Int32) (x2 : Int32) (x3 : Nat) (x4 : Int32) (x5 : Option Nat) (x6 : Int32) (h : XH) : Option (Int32 × XH) := (if ¬ x6 = 0 then (if x0 < hz h ∧ hk h x0 = 5 then (Option.bind (hr h x0 1) fun b29 => (if b29 < hz h ∧ hk h b29 = 1 then (Option.bind (f_b_octet b29 (x1 + x6) h) fun r32 => (b_j_isUnion_79 KT x0 x1 x2 x3 x4 x5 x6 r32.1 r32.2)) else none)) else none) else (b_j_isUnion_79 KT x0 x1 x2 x3 x4 x5 x6 0 h))
set_option maxRecDepth 20000 in
theorem kb_j_isUnion_59 {l : Launch} {G : XG} {d : Nat} {KT : Nat → Int32 → Int32 → Int32 → XH → Option (Int32 × XH)} {x0 : Nat} {x1 : Int32} {x2 : Int32} {x3 : Nat} {x4 : Int32} {x5 : Option Nat} {x6 : Int32} {h : XH} {r : Int32 × XH} (hKT : ∀ (t : Nat) (a0 : Int32) (a1 : Int32) (a2 : Int32) (h : XH) (r : Int32 × XH), LY h → KT t a0 a1 a2 h = some r → XC l G xEX5_isTable d [.ref t, .int a0, .int a1, .int a2] h (fun v h2 => (h2 = r.2 ∧ v = some (.int r.1)) ∧ LY r.2)) (L0 : LY h) (hf : b_j_isUnion_59 KT x0 x1 x2 x3 x4 x5 x6 h = some r) : XR l G xEX5_isUnion (d + 3) (59, [some (.ref x0), some (.int x1), some (.int x2), some (.ref x3), some (.int x4), some (va_rf x5), some (.int x6), none, none], [], h) (fun C => ∃ v, xRet xEX5_isUnion C v ∧ (C.2.2.2 = r.2 ∧ v = some (.int r.1)) ∧ LY r.2) := by
  unfold b_j_isUnion_59 at hf
  refine XS.go (s_iload rfl rfl) ?_
  refine r_if_ne (tgt := 68) rfl rfl (fun qc27 => ?_) (fun qc27 => ?_)
  · replace hf := xi_pos hf qc27
    refine XS.go (s_aloadn rfl rfl rfl) ?_
    replace hf := xi_none hf
    obtain ⟨qk28, hf⟩ := hf
    replace hf := xb_some hf
    obtain ⟨b29, qr30, hf⟩ := hf
    refine XS.go (s_getr rfl xf5_25 qk28.1 qk28.2 (by decide) rfl qr30) ?_
    refine XS.go (s_iloadn rfl rfl rfl) ?_
    refine XS.go (s_iload rfl rfl) ?_
    refine XS.go (s_iadd rfl) ?_
    replace hf := xi_none hf
    obtain ⟨qk31, hf⟩ := hf
    replace hf := xb_some hf
    obtain ⟨r32, e33, hf⟩ := hf
    refine r_callv rfl xvX1_octet xm5_143 (kf_b_octet (d := d) L0 e33) qk31.1 qk31.2 (by decide) rfl rfl (dl0 (by decide)) (by decide) (Nat.le_of_ble_eq_true rfl) ?_
    rintro _ _ ⟨⟨rfl, rfl⟩, L34⟩
    exact XR.forget (L2 := [some (.ref x0), some (.int x1), some (.int x2), some (.ref x3), some (.int x4), some (va_rf x5), some (.int x6), none, none]) ⟨rfl, ⟨rfl, ⟨rfl, ⟨rfl, ⟨rfl, ⟨rfl, ⟨rfl, trivial⟩⟩⟩⟩⟩⟩⟩ (kb_j_isUnion_79 hKT L34 hf)
  · replace hf := xi_neg hf qc27
    refine XS.go (s_iconst (v := 0) rfl rfl) ?_
    refine XS.go (s_goto (tgt := 79) rfl rfl) ?_
    exact XR.forget (L2 := [some (.ref x0), some (.int x1), some (.int x2), some (.ref x3), some (.int x4), some (va_rf x5), some (.int x6), none, none]) ⟨rfl, ⟨rfl, ⟨rfl, ⟨rfl, ⟨rfl, ⟨rfl, ⟨rfl, trivial⟩⟩⟩⟩⟩⟩⟩ (kb_j_isUnion_79 hKT L0 hf)
def f_j_isUnion (KT : Nat → Int32 → Int32 → Int32 → XH → Option (Int32 × XH)) (t : Nat) (a0 : Int32) (a1 : Int32) (a2 : Nat) (a3 : Int32) (h : XH) : Option (Int32 × XH) := (if t < hz h ∧ hk h t = 5 then (Option.bind (hr h t 0) fun b36 => (if b36 < hz h ∧ hk h b36 = 9 then (Option.bind (hr h b36 2) fun b39 => (if a2 < hz h ∧ hk h a2 = 3 then (if b39 < hz h ∧ hk h b39 = 4 then (Option.bind (f_g_at b39 (hi h a2 4) h) fun r43 => (Option.elim (r43.1) (some (0, r43.2)) fun b47 => (if t < hz r43.2 ∧ hk r43.2 t = 5 then (Option.bind (hr r43.2 t 1) fun b49 => (if a2 < hz r43.2 ∧ hk r43.2 a2 = 3 then (if b49 < hz r43.2 ∧ hk r43.2 b49 = 1 then (Option.bind (f_b_slotNumber b49 a1 (hi r43.2 a2 6) r43.2) fun r53 => (if r53.1 = 0 then (b_j_isUnion_59 KT t a0 a1 a2 a3 (some b47) r53.1 r53.2) else (if a2 < hz r53.2 ∧ hk r53.2 a2 = 3 then (if t < hz r53.2 ∧ hk r53.2 t = 5 then (Option.bind (f_j_liesWell t a0 a1 (hi r53.2 a2 6) 1 1 r53.2) fun r59 => (if ¬ r59.1 = 0 then (b_j_isUnion_59 KT t a0 a1 a2 a3 (some b47) r53.1 r59.2) else (some (0, r59.2)))) else none) else none))) else none) else none)) else none))) else none) else none)) else none)) else none)
set_option maxRecDepth 20000 in
theorem kf_j_isUnion {l : Launch} {G : XG} {d : Nat} {KT : Nat → Int32 → Int32 → Int32 → XH → Option (Int32 × XH)} {t : Nat} {a0 : Int32} {a1 : Int32} {a2 : Nat} {a3 : Int32} {h : XH} {r : Int32 × XH} (hKT : ∀ (t : Nat) (a0 : Int32) (a1 : Int32) (a2 : Int32) (h : XH) (r : Int32 × XH), LY h → KT t a0 a1 a2 h = some r → XC l G xEX5_isTable d [.ref t, .int a0, .int a1, .int a2] h (fun v h2 => (h2 = r.2 ∧ v = some (.int r.1)) ∧ LY r.2)) (L0 : LY h) (hf : f_j_isUnion KT t a0 a1 a2 a3 h = some r) : XC l G xEX5_isUnion (d + 3) [.ref t, .int a0, .int a1, .ref a2, .int a3] h (fun v h2 => (h2 = r.2 ∧ v = some (.int r.1)) ∧ LY r.2) := by
  refine XC.virt xvX5_isUnion (Nat.le_of_ble_eq_true rfl) ?_
  unfold f_j_isUnion at hf
  refine XR.norm (L3 := [some (.ref t), some (.int a0), some (.int a1), some (.ref a2), some (.int a3), none, none, none, none]) rfl ?_
  refine XS.go (s_aloadn rfl rfl rfl) ?_
  replace hf := xi_none hf
  obtain ⟨qk35, hf⟩ := hf
  replace hf := xb_some hf
  obtain ⟨b36, qr37, hf⟩ := hf
  refine XS.go (s_getr rfl xf5_21 qk35.1 qk35.2 (by decide) rfl qr37) ?_
  replace hf := xi_none hf
  obtain ⟨qk38, hf⟩ := hf
  replace hf := xb_some hf
  obtain ⟨b39, qr40, hf⟩ := hf
  refine XS.go (s_getr rfl xf5_140 qk38.1 qk38.2 (by decide) rfl qr40) ?_
  refine XS.go (s_aloadn rfl rfl rfl) ?_
  replace hf := xi_none hf
  obtain ⟨qk41, hf⟩ := hf
  refine XS.go (s_getie rfl xf5_114 qk41.1 qk41.2 (by decide) rfl rfl) ?_
  replace hf := xi_none hf
  obtain ⟨qk42, hf⟩ := hf
  replace hf := xb_some hf
  obtain ⟨r43, e44, hf⟩ := hf
  refine r_callv rfl xvX4_at xm5_67 (kf_g_at (d := d) L0 e44) qk42.1 qk42.2 (by decide) rfl rfl (dl0 (by decide)) (by decide) (Nat.le_of_ble_eq_true rfl) ?_
  rintro _ _ ⟨⟨rfl, rfl⟩, L45⟩
  refine XS.go (XS.lcl (L3 := [some (.ref t), some (.int a0), some (.int a1), some (.ref a2), some (.int a3), some (va_rf r43.1), none, none, none]) (s_astoreO rfl (Nat.le_of_ble_eq_true rfl)) rfl) ?_
  refine XS.go (s_aloadO rfl rfl) ?_
  refine r_ifnonnull (tgt := 23) rfl rfl (fun qn46 => ?_) (fun b47 qn46 => ?_)
  · replace hf := xo_none hf qn46
    try rw [qn46]
    refine XS.go (s_iconst (v := 0) rfl rfl) ?_
    cases hf
    exact XR.retz rfl rfl (by decide) (fun hret => ⟨_, hret, ⟨rfl, rfl⟩, L45⟩)
  · replace hf := xo_some hf qn46
    try rw [qn46]
    refine XS.go (s_aloadn rfl rfl rfl) ?_
    replace hf := xi_none hf
    obtain ⟨qk48, hf⟩ := hf
    replace hf := xb_some hf
    obtain ⟨b49, qr50, hf⟩ := hf
    refine XS.go (s_getr rfl xf5_25 qk48.1 qk48.2 (by decide) rfl qr50) ?_
    refine XS.go (s_iloadn rfl rfl rfl) ?_
    refine XS.go (s_aloadn rfl rfl rfl) ?_
    replace hf := xi_none hf
    obtain ⟨qk51, hf⟩ := hf
    refine XS.go (s_getie rfl xf5_103 qk51.1 qk51.2 (by decide) rfl rfl) ?_
    replace hf := xi_none hf
    obtain ⟨qk52, hf⟩ := hf
    replace hf := xb_some hf
    obtain ⟨r53, e54, hf⟩ := hf
    refine r_callv rfl xvX1_slotNumber xm5_106 (kf_b_slotNumber (d := d) L45 e54) qk52.1 qk52.2 (by decide) rfl rfl (dl (by decide)) (by decide) (Nat.le_of_ble_eq_true rfl) ?_
    rintro _ _ ⟨⟨rfl, rfl⟩, L55⟩
    refine XS.go (XS.lcl (L3 := [some (.ref t), some (.int a0), some (.int a1), some (.ref a2), some (.int a3), some (.ref b47), some (.int r53.1), none, none]) (s_istore rfl (Nat.le_of_ble_eq_true rfl)) rfl) ?_
    refine XS.go (s_iload rfl rfl) ?_
    refine r_if_eq (tgt := 59) rfl rfl (fun qc56 => ?_) (fun qc56 => ?_)
    · replace hf := xi_pos hf qc56
      exact XR.forget (L2 := [some (.ref t), some (.int a0), some (.int a1), some (.ref a2), some (.int a3), some (.ref b47), some (.int r53.1), none, none]) ⟨rfl, ⟨rfl, ⟨rfl, ⟨rfl, ⟨rfl, ⟨rfl, ⟨rfl, trivial⟩⟩⟩⟩⟩⟩⟩ (kb_j_isUnion_59 hKT L55 hf)
    · replace hf := xi_neg hf qc56
      refine XS.go (s_aloadn rfl rfl rfl) ?_
      refine XS.go (s_iloadn rfl rfl rfl) ?_
      refine XS.go (s_iloadn rfl rfl rfl) ?_
      refine XS.go (s_aloadn rfl rfl rfl) ?_
      replace hf := xi_none hf
      obtain ⟨qk57, hf⟩ := hf
      refine XS.go (s_getie rfl xf5_103 qk57.1 qk57.2 (by decide) rfl rfl) ?_
      refine XS.go (s_iconst (v := 1) rfl rfl) ?_
      refine XS.go (s_iconst (v := 1) rfl rfl) ?_
      replace hf := xi_none hf
      obtain ⟨qk58, hf⟩ := hf
      replace hf := xb_some hf
      obtain ⟨r59, e60, hf⟩ := hf
      refine r_callv rfl xvX5_liesWell xm5_122 (kf_j_liesWell (d := d) L55 e60) qk58.1 qk58.2 (by decide) rfl rfl (dl (by decide)) (by decide) (Nat.le_of_ble_eq_true rfl) ?_
      rintro _ _ ⟨⟨rfl, rfl⟩, L61⟩
      refine r_if_ne (tgt := 59) rfl rfl (fun qc62 => ?_) (fun qc62 => ?_)
      · replace hf := xi_pos hf qc62
        exact XR.forget (L2 := [some (.ref t), some (.int a0), some (.int a1), some (.ref a2), some (.int a3), some (.ref b47), some (.int r53.1), none, none]) ⟨rfl, ⟨rfl, ⟨rfl, ⟨rfl, ⟨rfl, ⟨rfl, ⟨rfl, trivial⟩⟩⟩⟩⟩⟩⟩ (kb_j_isUnion_59 hKT L61 hf)
      · replace hf := xi_neg hf qc62
        refine XS.go (s_iconst (v := 0) rfl rfl) ?_
        cases hf
        exact XR.retz rfl rfl (by decide) (fun hret => ⟨_, hret, ⟨rfl, rfl⟩, L61⟩)
def s_j_isVector_117 (KT : Nat → Int32 → Int32 → Int32 → XH → Option (Int32 × XH)) (K117 : Nat → Int32 → Int32 → Int32 → Int32 → Int32 → Int64 → Int32 → XH → Option (Int32 × XH)) (x0 : Nat) (x2 : Int32) (x3 : Int32) (x4 : Int32) (x6 : Int32) (x7 : Int32) (x8 : Int64) (x10 : Int32) (h : XH) : Option (Int32 × XH) := (if 0 ≤ (lg_cmp (Int32.toInt64 x10) x8) then (some (1, h)) else (if x0 < hz h ∧ hk h x0 = 5 then (Option.bind (f_j_isContent KT x0 (x6 + (x10 * x7)) x2 x3 x4 h) fun r3 => (if ¬ r3.1 = 0 then (K117 x0 x2 x3 x4 x6 x7 x8 (x10 + 1) r3.2) else (some (0, r3.2)))) else none))
set_option maxRecDepth 20000 in
theorem ks_j_isVector_117 {l : Launch} {G : XG} {d : Nat} {KT : Nat → Int32 → Int32 → Int32 → XH → Option (Int32 × XH)} {K117 : Nat → Int32 → Int32 → Int32 → Int32 → Int32 → Int64 → Int32 → XH → Option (Int32 × XH)} {x0 : Nat} {x2 : Int32} {x3 : Int32} {x4 : Int32} {x6 : Int32} {x7 : Int32} {x8 : Int64} {x10 : Int32} {h : XH} {r : Int32 × XH} (hKT : ∀ (t : Nat) (a0 : Int32) (a1 : Int32) (a2 : Int32) (h : XH) (r : Int32 × XH), LY h → KT t a0 a1 a2 h = some r → XC l G xEX5_isTable d [.ref t, .int a0, .int a1, .int a2] h (fun v h2 => (h2 = r.2 ∧ v = some (.int r.1)) ∧ LY r.2)) (hK117 : ∀ (x0 : Nat) (x2 : Int32) (x3 : Int32) (x4 : Int32) (x6 : Int32) (x7 : Int32) (x8 : Int64) (x10 : Int32) (h : XH), LY h → K117 x0 x2 x3 x4 x6 x7 x8 x10 h = some r → XR l G xEX5_isVector (d + 3) (117, [some (.ref x0), none, some (.int x2), some (.int x3), some (.int x4), none, some (.int x6), some (.int x7), some (.long x8), none, some (.int x10)], [], h) (fun C => ∃ v, xRet xEX5_isVector C v ∧ (C.2.2.2 = r.2 ∧ v = some (.int r.1)) ∧ LY r.2)) (L0 : LY h) (hf : s_j_isVector_117 KT K117 x0 x2 x3 x4 x6 x7 x8 x10 h = some r) : XR l G xEX5_isVector (d + 3) (117, [some (.ref x0), none, some (.int x2), some (.int x3), some (.int x4), none, some (.int x6), some (.int x7), some (.long x8), none, some (.int x10)], [], h) (fun C => ∃ v, xRet xEX5_isVector C v ∧ (C.2.2.2 = r.2 ∧ v = some (.int r.1)) ∧ LY r.2) := by
  unfold s_j_isVector_117 at hf
  refine XS.go (s_iload rfl rfl) ?_
  refine XS.go (s_i2l rfl) ?_
  refine XS.go (s_lload rfl rfl) ?_
  refine XS.go (s_lcmp rfl) ?_
  refine r_if_ge (tgt := 153) rfl rfl (fun qc1 => ?_) (fun qc1 => ?_)
  · replace hf := xi_pos hf qc1
    refine XS.go (s_iconst (v := 1) rfl rfl) ?_
    cases hf
    exact XR.retz rfl rfl (by decide) (fun hret => ⟨_, hret, ⟨rfl, rfl⟩, L0⟩)
  · replace hf := xi_neg hf qc1
    refine XS.go (s_aloadn rfl rfl rfl) ?_
    refine XS.go (s_iload rfl rfl) ?_
    refine XS.go (s_iload rfl rfl) ?_
    refine XS.go (s_iload rfl rfl) ?_
    refine XS.go (s_imul rfl) ?_
    refine XS.go (s_iadd rfl) ?_
    refine XS.go (s_iloadn rfl rfl rfl) ?_
    refine XS.go (s_iloadn rfl rfl rfl) ?_
    refine XS.go (s_iload rfl rfl) ?_
    replace hf := xi_none hf
    obtain ⟨qk2, hf⟩ := hf
    replace hf := xb_some hf
    obtain ⟨r3, e4, hf⟩ := hf
    refine r_callv rfl xvX5_isContent xm5_133 (kf_j_isContent (d := d) hKT L0 e4) qk2.1 qk2.2 (by decide) rfl rfl (dl (by decide)) (by decide) (Nat.le_of_ble_eq_true rfl) ?_
    rintro _ _ ⟨⟨rfl, rfl⟩, L5⟩
    refine r_if_ne (tgt := 147) rfl rfl (fun qc6 => ?_) (fun qc6 => ?_)
    · replace hf := xi_pos hf qc6
      refine XS.go (XS.lcl (L3 := [some (.ref x0), none, some (.int x2), some (.int x3), some (.int x4), none, some (.int x6), some (.int x7), some (.long x8), none, some (.int (x10 + 1))]) (s_inc rfl rfl (Nat.le_of_ble_eq_true rfl)) rfl) ?_
      refine XS.go (s_goto (tgt := 117) rfl rfl) ?_
      exact XR.forget (L2 := [some (.ref x0), none, some (.int x2), some (.int x3), some (.int x4), none, some (.int x6), some (.int x7), some (.long x8), none, some (.int (x10 + 1))]) ⟨rfl, ⟨rfl, ⟨rfl, ⟨rfl, ⟨rfl, ⟨rfl, ⟨rfl, ⟨rfl, trivial⟩⟩⟩⟩⟩⟩⟩⟩ (hK117 x0 x2 x3 x4 x6 x7 x8 (x10 + 1) _ L5 hf)
    · replace hf := xi_neg hf qc6
      refine XS.go (s_iconst (v := 0) rfl rfl) ?_
      cases hf
      exact XR.retz rfl rfl (by decide) (fun hret => ⟨_, hret, ⟨rfl, rfl⟩, L5⟩)
def b_j_isVector_117 (KT : Nat → Int32 → Int32 → Int32 → XH → Option (Int32 × XH)) : Nat → Nat → Int32 → Int32 → Int32 → Int32 → Int32 → Int64 → Int32 → XH → Option (Int32 × XH)
  | 0, _, _, _, _, _, _, _, _, _ => none
  | n + 1, x0, x2, x3, x4, x6, x7, x8, x10, h => s_j_isVector_117 KT (b_j_isVector_117 KT n) x0 x2 x3 x4 x6 x7 x8 x10 h
theorem kb_j_isVector_117 {l : Launch} {G : XG} {d : Nat} {KT : Nat → Int32 → Int32 → Int32 → XH → Option (Int32 × XH)} {n : Nat} {x0 : Nat} {x2 : Int32} {x3 : Int32} {x4 : Int32} {x6 : Int32} {x7 : Int32} {x8 : Int64} {x10 : Int32} {h : XH} {r : Int32 × XH} (hKT : ∀ (t : Nat) (a0 : Int32) (a1 : Int32) (a2 : Int32) (h : XH) (r : Int32 × XH), LY h → KT t a0 a1 a2 h = some r → XC l G xEX5_isTable d [.ref t, .int a0, .int a1, .int a2] h (fun v h2 => (h2 = r.2 ∧ v = some (.int r.1)) ∧ LY r.2)) (L0 : LY h) (hf : b_j_isVector_117 KT n x0 x2 x3 x4 x6 x7 x8 x10 h = some r) : XR l G xEX5_isVector (d + 3) (117, [some (.ref x0), none, some (.int x2), some (.int x3), some (.int x4), none, some (.int x6), some (.int x7), some (.long x8), none, some (.int x10)], [], h) (fun C => ∃ v, xRet xEX5_isVector C v ∧ (C.2.2.2 = r.2 ∧ v = some (.int r.1)) ∧ LY r.2) := by
  induction n generalizing x0 x2 x3 x4 x6 x7 x8 x10 h with
  | zero => cases hf
  | succ n ih => exact ks_j_isVector_117 hKT (fun x0 x2 x3 x4 x6 x7 x8 x10 h L0 hf => ih (h := h) (x0 := x0) (x2 := x2) (x3 := x3) (x4 := x4) (x6 := x6) (x7 := x7) (x8 := x8) (x10 := x10) L0 hf) L0 hf
def b_j_isVector_114 (KT : Nat → Int32 → Int32 → Int32 → XH → Option (Int32 × XH)) (x0 : Nat) (x2 : Int32) (x3 : Int32) (x4 : Int32) (x6 : Int32) (x7 : Int32) (x8 : Int64) (h : XH) : Option (Int32 × XH) := (b_j_isVector_117 KT 100000 x0 x2 x3 x4 x6 x7 x8 0 h)
set_option maxRecDepth 20000 in
theorem kb_j_isVector_114 {l : Launch} {G : XG} {d : Nat} {KT : Nat → Int32 → Int32 → Int32 → XH → Option (Int32 × XH)} {x0 : Nat} {x2 : Int32} {x3 : Int32} {x4 : Int32} {x6 : Int32} {x7 : Int32} {x8 : Int64} {h : XH} {r : Int32 × XH} (hKT : ∀ (t : Nat) (a0 : Int32) (a1 : Int32) (a2 : Int32) (h : XH) (r : Int32 × XH), LY h → KT t a0 a1 a2 h = some r → XC l G xEX5_isTable d [.ref t, .int a0, .int a1, .int a2] h (fun v h2 => (h2 = r.2 ∧ v = some (.int r.1)) ∧ LY r.2)) (L0 : LY h) (hf : b_j_isVector_114 KT x0 x2 x3 x4 x6 x7 x8 h = some r) : XR l G xEX5_isVector (d + 3) (114, [some (.ref x0), none, some (.int x2), some (.int x3), some (.int x4), none, some (.int x6), some (.int x7), some (.long x8), none, none], [], h) (fun C => ∃ v, xRet xEX5_isVector C v ∧ (C.2.2.2 = r.2 ∧ v = some (.int r.1)) ∧ LY r.2) := by
  unfold b_j_isVector_114 at hf
  refine XS.go (s_iconst (v := 0) rfl rfl) ?_
  refine XS.go (XS.lcl (L3 := [some (.ref x0), none, some (.int x2), some (.int x3), some (.int x4), none, some (.int x6), some (.int x7), some (.long x8), none, some (.int 0)]) (s_istore rfl (Nat.le_of_ble_eq_true rfl)) rfl) ?_
  exact XR.forget (L2 := [some (.ref x0), none, some (.int x2), some (.int x3), some (.int x4), none, some (.int x6), some (.int x7), some (.long x8), none, some (.int 0)]) ⟨rfl, ⟨rfl, ⟨rfl, ⟨rfl, ⟨rfl, ⟨rfl, ⟨rfl, ⟨rfl, trivial⟩⟩⟩⟩⟩⟩⟩⟩ (kb_j_isVector_117 hKT L0 hf)
def f_j_isVector (KT : Nat → Int32 → Int32 → Int32 → XH → Option (Int32 × XH)) (t : Nat) (a0 : Int32) (a1 : Int32) (a2 : Int32) (a3 : Int32) (h : XH) : Option (Int32 × XH) := (if t < hz h ∧ hk h t = 5 then (Option.bind (f_j_isReference t a0 h) fun r8 => (if ¬ r8.1 = 0 then (if t < hz r8.2 ∧ hk r8.2 t = 5 then (Option.bind (hr r8.2 t 1) fun b13 => (if b13 < hz r8.2 ∧ hk r8.2 b13 = 1 then (Option.bind (f_b_behind b13 a0 r8.2) fun r16 => (if t < hz r16.2 ∧ hk r16.2 t = 5 then (Option.bind (hr r16.2 t 0) fun b20 => (if b20 < hz r16.2 ∧ hk r16.2 b20 = 9 then (Option.bind (f_s_alignmentOf b20 a1 a2 r16.2) fun r23 => (Option.bind (f_t_isAligned (r16.1 + 4) r23.1 r23.2) fun r26 => (if ¬ r26.1 = 0 then (if t < hz r26.2 ∧ hk r26.2 t = 5 then (Option.bind (hr r26.2 t 0) fun b31 => (if b31 < hz r26.2 ∧ hk r26.2 b31 = 9 then (Option.bind (f_s_bytesOf b31 a1 a2 r26.2) fun r34 => (if t < hz r34.2 ∧ hk r34.2 t = 5 then (Option.bind (hr r34.2 t 1) fun b38 => (if b38 < hz r34.2 ∧ hk r34.2 b38 = 1 then (Option.bind (f_b_number b38 r16.1 4 r34.2) fun r41 => (if t < hz r41.2 ∧ hk r41.2 t = 5 then (if (lg_cmp ((Int32.toInt64 (r16.1 + 4)) + (r41.1 * (Int32.toInt64 r34.1))) (Int32.toInt64 (hi r41.2 t 2))) ≤ 0 then (if ¬ a1 = 0 then (b_j_isVector_114 KT t a1 a2 a3 (r16.1 + 4) r34.1 r41.1 r41.2) else (if a2 = 0 then (b_j_isVector_114 KT t a1 a2 a3 (r16.1 + 4) r34.1 r41.1 r41.2) else (some (1, r41.2)))) else (Option.bind (f_j_wrong t 13 (Int32.toInt64 r16.1) r41.2) fun r48 => (if r48.1 = 0 ∨ r48.1 = 1 then (some (r48.1, r48.2)) else none))) else none)) else none)) else none)) else none)) else none) else (if t < hz r26.2 ∧ hk r26.2 t = 5 then (Option.bind (f_j_wrong t 3 (Int32.toInt64 r16.1) r26.2) fun r53 => (if r53.1 = 0 ∨ r53.1 = 1 then (some (r53.1, r53.2)) else none)) else none)))) else none)) else none)) else none)) else none) else (some (0, r8.2)))) else none)
set_option maxRecDepth 20000 in
theorem kf_j_isVector {l : Launch} {G : XG} {d : Nat} {KT : Nat → Int32 → Int32 → Int32 → XH → Option (Int32 × XH)} {t : Nat} {a0 : Int32} {a1 : Int32} {a2 : Int32} {a3 : Int32} {h : XH} {r : Int32 × XH} (hKT : ∀ (t : Nat) (a0 : Int32) (a1 : Int32) (a2 : Int32) (h : XH) (r : Int32 × XH), LY h → KT t a0 a1 a2 h = some r → XC l G xEX5_isTable d [.ref t, .int a0, .int a1, .int a2] h (fun v h2 => (h2 = r.2 ∧ v = some (.int r.1)) ∧ LY r.2)) (L0 : LY h) (hf : f_j_isVector KT t a0 a1 a2 a3 h = some r) : XC l G xEX5_isVector (d + 3) [.ref t, .int a0, .int a1, .int a2, .int a3] h (fun v h2 => (h2 = r.2 ∧ v = some (.int r.1)) ∧ LY r.2) := by
  refine XC.virt xvX5_isVector (Nat.le_of_ble_eq_true rfl) ?_
  unfold f_j_isVector at hf
  refine XR.norm (L3 := [some (.ref t), some (.int a0), some (.int a1), some (.int a2), some (.int a3), none, none, none, none, none, none]) rfl ?_
  refine XS.go (s_aloadn rfl rfl rfl) ?_
  refine XS.go (s_iloadn rfl rfl rfl) ?_
  replace hf := xi_none hf
  obtain ⟨qk7, hf⟩ := hf
  replace hf := xb_some hf
  obtain ⟨r8, e9, hf⟩ := hf
  refine r_callv rfl xvX5_isReference xm5_55 (kf_j_isReference (d := d) L0 e9) qk7.1 qk7.2 (by decide) rfl rfl (dl (by decide)) (by decide) (Nat.le_of_ble_eq_true rfl) ?_
  rintro _ _ ⟨⟨rfl, rfl⟩, L10⟩
  refine r_if_ne (tgt := 10) rfl rfl (fun qc11 => ?_) (fun qc11 => ?_)
  · replace hf := xi_pos hf qc11
    refine XS.go (s_aloadn rfl rfl rfl) ?_
    replace hf := xi_none hf
    obtain ⟨qk12, hf⟩ := hf
    replace hf := xb_some hf
    obtain ⟨b13, qr14, hf⟩ := hf
    refine XS.go (s_getr rfl xf5_25 qk12.1 qk12.2 (by decide) rfl qr14) ?_
    refine XS.go (s_iloadn rfl rfl rfl) ?_
    replace hf := xi_none hf
    obtain ⟨qk15, hf⟩ := hf
    replace hf := xb_some hf
    obtain ⟨r16, e17, hf⟩ := hf
    refine r_callv rfl xvX1_behind xm5_59 (kf_b_behind (d := d) L10 e17) qk15.1 qk15.2 (by decide) rfl rfl (dl (by decide)) (by decide) (Nat.le_of_ble_eq_true rfl) ?_
    rintro _ _ ⟨⟨rfl, rfl⟩, L18⟩
    refine XS.go (XS.lcl (L3 := [some (.ref t), some (.int a0), some (.int a1), some (.int a2), some (.int a3), some (.int r16.1), none, none, none, none, none]) (s_istore rfl (Nat.le_of_ble_eq_true rfl)) rfl) ?_
    refine XS.go (s_iload rfl rfl) ?_
    refine XS.go (s_iconst (v := 4) rfl rfl) ?_
    refine XS.go (s_iadd rfl) ?_
    refine XS.go (XS.lcl (L3 := [some (.ref t), some (.int a0), some (.int a1), some (.int a2), some (.int a3), some (.int r16.1), some (.int (r16.1 + 4)), none, none, none, none]) (s_istore rfl (Nat.le_of_ble_eq_true rfl)) rfl) ?_
    refine XS.go (s_iload rfl rfl) ?_
    refine XS.go (s_aloadn rfl rfl rfl) ?_
    replace hf := xi_none hf
    obtain ⟨qk19, hf⟩ := hf
    replace hf := xb_some hf
    obtain ⟨b20, qr21, hf⟩ := hf
    refine XS.go (s_getr rfl xf5_21 qk19.1 qk19.2 (by decide) rfl qr21) ?_
    refine XS.go (s_iloadn rfl rfl rfl) ?_
    refine XS.go (s_iloadn rfl rfl rfl) ?_
    replace hf := xi_none hf
    obtain ⟨qk22, hf⟩ := hf
    replace hf := xb_some hf
    obtain ⟨r23, e24, hf⟩ := hf
    refine r_callv rfl xvX9_alignmentOf xm5_119 (kf_s_alignmentOf (d := d) L18 e24) qk22.1 qk22.2 (by decide) rfl rfl (dl (by decide)) (by decide) (Nat.le_of_ble_eq_true rfl) ?_
    rintro _ _ ⟨⟨rfl, rfl⟩, L25⟩
    replace hf := xb_some hf
    obtain ⟨r26, e27, hf⟩ := hf
    refine r_callsn rfl xsX11_isAligned (List.mem_of_getElem? (i := 11) rfl) (kf_t_isAligned (d := d) L25 e27) rfl rfl (dl0 (by decide)) (by decide) (Nat.le_of_ble_eq_true rfl) ?_
    rintro _ _ ⟨⟨rfl, rfl⟩, L28⟩
    refine r_if_ne (tgt := 52) rfl rfl (fun qc29 => ?_) (fun qc29 => ?_)
    · replace hf := xi_pos hf qc29
      refine XS.go (s_aloadn rfl rfl rfl) ?_
      replace hf := xi_none hf
      obtain ⟨qk30, hf⟩ := hf
      replace hf := xb_some hf
      obtain ⟨b31, qr32, hf⟩ := hf
      refine XS.go (s_getr rfl xf5_21 qk30.1 qk30.2 (by decide) rfl qr32) ?_
      refine XS.go (s_iloadn rfl rfl rfl) ?_
      refine XS.go (s_iloadn rfl rfl rfl) ?_
      replace hf := xi_none hf
      obtain ⟨qk33, hf⟩ := hf
      replace hf := xb_some hf
      obtain ⟨r34, e35, hf⟩ := hf
      refine r_callv rfl xvX9_bytesOf xm5_116 (kf_s_bytesOf (d := d) L28 e35) qk33.1 qk33.2 (by decide) rfl rfl (dl (by decide)) (by decide) (Nat.le_of_ble_eq_true rfl) ?_
      rintro _ _ ⟨⟨rfl, rfl⟩, L36⟩
      refine XS.go (XS.lcl (L3 := [some (.ref t), some (.int a0), some (.int a1), some (.int a2), some (.int a3), some (.int r16.1), some (.int (r16.1 + 4)), some (.int r34.1), none, none, none]) (s_istore rfl (Nat.le_of_ble_eq_true rfl)) rfl) ?_
      refine XS.go (s_aloadn rfl rfl rfl) ?_
      replace hf := xi_none hf
      obtain ⟨qk37, hf⟩ := hf
      replace hf := xb_some hf
      obtain ⟨b38, qr39, hf⟩ := hf
      refine XS.go (s_getr rfl xf5_25 qk37.1 qk37.2 (by decide) rfl qr39) ?_
      refine XS.go (s_iload rfl rfl) ?_
      refine XS.go (s_iconst (v := 4) rfl rfl) ?_
      replace hf := xi_none hf
      obtain ⟨qk40, hf⟩ := hf
      replace hf := xb_some hf
      obtain ⟨r41, e42, hf⟩ := hf
      refine r_callv rfl xvX1_number xm5_45 (kf_b_number (d := d) L36 e42) qk40.1 qk40.2 (by decide) rfl rfl (dl0 (by decide)) (by decide) (Nat.le_of_ble_eq_true rfl) ?_
      rintro _ _ ⟨⟨rfl, rfl⟩, L43⟩
      refine XS.go (XS.lcl (L3 := [some (.ref t), some (.int a0), some (.int a1), some (.int a2), some (.int a3), some (.int r16.1), some (.int (r16.1 + 4)), some (.int r34.1), some (.long r41.1), none, none]) (s_lstore rfl (Nat.le_of_ble_eq_true rfl)) rfl) ?_
      refine XS.go (s_iload rfl rfl) ?_
      refine XS.go (s_i2l rfl) ?_
      refine XS.go (s_lload rfl rfl) ?_
      refine XS.go (s_iload rfl rfl) ?_
      refine XS.go (s_i2l rfl) ?_
      refine XS.go (s_lmul rfl) ?_
      refine XS.go (s_ladd rfl) ?_
      refine XS.go (s_aloadn rfl rfl rfl) ?_
      replace hf := xi_none hf
      obtain ⟨qk44, hf⟩ := hf
      refine XS.go (s_getie rfl xf5_29 qk44.1 qk44.2 (by decide) rfl rfl) ?_
      refine XS.go (s_i2l rfl) ?_
      refine XS.go (s_lcmp rfl) ?_
      refine r_if_le (tgt := 104) rfl rfl (fun qc45 => ?_) (fun qc45 => ?_)
      · replace hf := xi_pos hf qc45
        refine XS.go (s_iloadn rfl rfl rfl) ?_
        refine r_if_ne (tgt := 114) rfl rfl (fun qc46 => ?_) (fun qc46 => ?_)
        · replace hf := xi_pos hf qc46
          exact XR.forget (L2 := [some (.ref t), none, some (.int a1), some (.int a2), some (.int a3), none, some (.int (r16.1 + 4)), some (.int r34.1), some (.long r41.1), none, none]) ⟨rfl, ⟨rfl, ⟨rfl, ⟨rfl, ⟨rfl, ⟨rfl, ⟨rfl, trivial⟩⟩⟩⟩⟩⟩⟩ (kb_j_isVector_114 hKT L43 hf)
        · replace hf := xi_neg hf qc46
          refine XS.go (s_iloadn rfl rfl rfl) ?_
          refine r_if_eq (tgt := 114) rfl rfl (fun qc47 => ?_) (fun qc47 => ?_)
          · replace hf := xi_pos hf qc47
            exact XR.forget (L2 := [some (.ref t), none, some (.int a1), some (.int a2), some (.int a3), none, some (.int (r16.1 + 4)), some (.int r34.1), some (.long r41.1), none, none]) ⟨rfl, ⟨rfl, ⟨rfl, ⟨rfl, ⟨rfl, ⟨rfl, ⟨rfl, trivial⟩⟩⟩⟩⟩⟩⟩ (kb_j_isVector_114 hKT L43 hf)
          · replace hf := xi_neg hf qc47
            refine XS.go (s_iconst (v := 1) rfl rfl) ?_
            cases hf
            exact XR.retz rfl rfl (by decide) (fun hret => ⟨_, hret, ⟨rfl, rfl⟩, L43⟩)
      · replace hf := xi_neg hf qc45
        refine XS.go (s_aloadn rfl rfl rfl) ?_
        refine XS.go (s_bipush (v := 13) rfl rfl) ?_
        refine XS.go (s_iload rfl rfl) ?_
        refine XS.go (s_i2l rfl) ?_
        replace hf := xb_some hf
        obtain ⟨r48, e49, hf⟩ := hf
        refine r_callv rfl xvX5_wrong xm5_32 (kf_j_wrong (d := d) L43 e49) qk44.1 qk44.2 (by decide) rfl rfl (dl0 (by decide)) (by decide) (Nat.le_of_ble_eq_true rfl) ?_
        rintro _ _ ⟨⟨rfl, rfl⟩, L50⟩
        replace hf := xi_none hf
        obtain ⟨qk51, hf⟩ := hf
        cases hf
        exact XR.retz rfl rfl qk51 (fun hret => ⟨_, hret, ⟨rfl, rfl⟩, L50⟩)
    · replace hf := xi_neg hf qc29
      refine XS.go (s_aloadn rfl rfl rfl) ?_
      refine XS.go (s_iconst (v := 3) rfl rfl) ?_
      refine XS.go (s_iload rfl rfl) ?_
      refine XS.go (s_i2l rfl) ?_
      replace hf := xi_none hf
      obtain ⟨qk52, hf⟩ := hf
      replace hf := xb_some hf
      obtain ⟨r53, e54, hf⟩ := hf
      refine r_callv rfl xvX5_wrong xm5_32 (kf_j_wrong (d := d) L28 e54) qk52.1 qk52.2 (by decide) rfl rfl (dl0 (by decide)) (by decide) (Nat.le_of_ble_eq_true rfl) ?_
      rintro _ _ ⟨⟨rfl, rfl⟩, L55⟩
      replace hf := xi_none hf
      obtain ⟨qk56, hf⟩ := hf
      cases hf
      exact XR.retz rfl rfl qk56 (fun hret => ⟨_, hret, ⟨rfl, rfl⟩, L55⟩)
  · replace hf := xi_neg hf qc11
    refine XS.go (s_iconst (v := 0) rfl rfl) ?_
    cases hf
    exact XR.retz rfl rfl (by decide) (fun hret => ⟨_, hret, ⟨rfl, rfl⟩, L10⟩)
def b_j_isField_55 (KT : Nat → Int32 → Int32 → Int32 → XH → Option (Int32 × XH)) (h : XH) : Option (Int32 × XH) := (some (1, h))
set_option maxRecDepth 20000 in
theorem kb_j_isField_55 {l : Launch} {G : XG} {d : Nat} {KT : Nat → Int32 → Int32 → Int32 → XH → Option (Int32 × XH)} {h : XH} {r : Int32 × XH} (hKT : ∀ (t : Nat) (a0 : Int32) (a1 : Int32) (a2 : Int32) (h : XH) (r : Int32 × XH), LY h → KT t a0 a1 a2 h = some r → XC l G xEX5_isTable d [.ref t, .int a0, .int a1, .int a2] h (fun v h2 => (h2 = r.2 ∧ v = some (.int r.1)) ∧ LY r.2)) (L0 : LY h) (hf : b_j_isField_55 KT h = some r) : XR l G xEX5_isField (d + 4) (55, [none, none, none, none, none, none, none, none], [], h) (fun C => ∃ v, xRet xEX5_isField C v ∧ (C.2.2.2 = r.2 ∧ v = some (.int r.1)) ∧ LY r.2) := by
  unfold b_j_isField_55 at hf
  refine XS.go (s_iconst (v := 1) rfl rfl) ?_
  refine XS.go (s_goto (tgt := 60) rfl rfl) ?_
  cases hf
  exact XR.retz rfl rfl (by decide) (fun hret => ⟨_, hret, ⟨rfl, rfl⟩, L0⟩)
def f_j_isField (KT : Nat → Int32 → Int32 → Int32 → XH → Option (Int32 × XH)) (t : Nat) (a0 : Int32) (a1 : Int32) (a2 : Nat) (a3 : Int32) (h : XH) : Option (Int32 × XH) := (if a2 < hz h ∧ hk h a2 = 3 then (if ¬ (hi h a2 3) = 4 then (if t < hz h ∧ hk h t = 5 then (Option.bind (hr h t 1) fun b4 => (if b4 < hz h ∧ hk h b4 = 1 then (Option.bind (f_b_slotNumber b4 a1 (hi h a2 6) h) fun r7 => (if ¬ r7.1 = 0 then (if t < hz r7.2 ∧ hk r7.2 t = 5 then (Option.bind (hr r7.2 t 0) fun b12 => (if a2 < hz r7.2 ∧ hk r7.2 a2 = 3 then (if b12 < hz r7.2 ∧ hk r7.2 b12 = 9 then (Option.bind (f_s_bytesOf b12 (hi r7.2 a2 3) (hi r7.2 a2 4) r7.2) fun r16 => (if t < hz r16.2 ∧ hk r16.2 t = 5 then (Option.bind (hr r16.2 t 0) fun b20 => (if a2 < hz r16.2 ∧ hk r16.2 a2 = 3 then (if b20 < hz r16.2 ∧ hk r16.2 b20 = 9 then (Option.bind (f_s_alignmentOf b20 (hi r16.2 a2 3) (hi r16.2 a2 4) r16.2) fun r24 => (if a2 < hz r24.2 ∧ hk r24.2 a2 = 3 then (if t < hz r24.2 ∧ hk r24.2 t = 5 then (Option.bind (f_j_liesWell t a0 a1 (hi r24.2 a2 6) r16.1 r24.1 r24.2) fun r29 => (if ¬ r29.1 = 0 then (if a2 < hz r29.2 ∧ hk r29.2 a2 = 3 then (if ¬ (hi r29.2 a2 3) = 5 then (if t < hz r29.2 ∧ hk r29.2 t = 5 then (Option.bind (f_j_isContent KT t (a0 + r7.1) (hi r29.2 a2 3) (hi r29.2 a2 4) a3 r29.2) fun r36 => (if r36.1 = 0 ∨ r36.1 = 1 then (some (r36.1, r36.2)) else none)) else none) else (if t < hz r29.2 ∧ hk r29.2 t = 5 then (Option.bind (f_j_isVector KT t (a0 + r7.1) (hi r29.2 a2 5) (hi r29.2 a2 4) a3 r29.2) fun r41 => (if r41.1 = 0 ∨ r41.1 = 1 then (some (r41.1, r41.2)) else none)) else none)) else none) else (some (0, r29.2)))) else none) else none)) else none) else none)) else none)) else none) else none)) else none) else (if a2 < hz r7.2 ∧ hk r7.2 a2 = 3 then (if (hi r7.2 a2 7) = 0 then (b_j_isField_55 KT r7.2) else (if t < hz r7.2 ∧ hk r7.2 t = 5 then (Option.bind (f_j_wrong t 9 (Int32.toInt64 a0) r7.2) fun r48 => (if r48.1 = 0 then (some (0, r48.2)) else (b_j_isField_55 KT r48.2))) else none)) else none))) else none)) else none) else (if t < hz h ∧ hk h t = 5 then (Option.bind (f_j_isUnion KT t a0 a1 a2 a3 h) fun r53 => (if r53.1 = 0 ∨ r53.1 = 1 then (some (r53.1, r53.2)) else none)) else none)) else none)
set_option maxRecDepth 20000 in
theorem kf_j_isField {l : Launch} {G : XG} {d : Nat} {KT : Nat → Int32 → Int32 → Int32 → XH → Option (Int32 × XH)} {t : Nat} {a0 : Int32} {a1 : Int32} {a2 : Nat} {a3 : Int32} {h : XH} {r : Int32 × XH} (hKT : ∀ (t : Nat) (a0 : Int32) (a1 : Int32) (a2 : Int32) (h : XH) (r : Int32 × XH), LY h → KT t a0 a1 a2 h = some r → XC l G xEX5_isTable d [.ref t, .int a0, .int a1, .int a2] h (fun v h2 => (h2 = r.2 ∧ v = some (.int r.1)) ∧ LY r.2)) (L0 : LY h) (hf : f_j_isField KT t a0 a1 a2 a3 h = some r) : XC l G xEX5_isField (d + 4) [.ref t, .int a0, .int a1, .ref a2, .int a3] h (fun v h2 => (h2 = r.2 ∧ v = some (.int r.1)) ∧ LY r.2) := by
  refine XC.virt xvX5_isField (Nat.le_of_ble_eq_true rfl) ?_
  unfold f_j_isField at hf
  refine XR.norm (L3 := [some (.ref t), some (.int a0), some (.int a1), some (.ref a2), some (.int a3), none, none, none]) rfl ?_
  refine XS.go (s_aloadn rfl rfl rfl) ?_
  replace hf := xi_none hf
  obtain ⟨qk1, hf⟩ := hf
  refine XS.go (s_getie rfl xf5_95 qk1.1 qk1.2 (by decide) rfl rfl) ?_
  refine XS.go (s_iconst (v := 4) rfl rfl) ?_
  refine r_icmp_ne (tgt := 18) rfl rfl (fun qc2 => ?_) (fun qc2 => ?_)
  · replace hf := xi_pos hf qc2
    refine XS.go (s_aloadn rfl rfl rfl) ?_
    replace hf := xi_none hf
    obtain ⟨qk3, hf⟩ := hf
    replace hf := xb_some hf
    obtain ⟨b4, qr5, hf⟩ := hf
    refine XS.go (s_getr rfl xf5_25 qk3.1 qk3.2 (by decide) rfl qr5) ?_
    refine XS.go (s_iloadn rfl rfl rfl) ?_
    refine XS.go (s_aloadn rfl rfl rfl) ?_
    refine XS.go (s_getie rfl xf5_103 qk1.1 qk1.2 (by decide) rfl rfl) ?_
    replace hf := xi_none hf
    obtain ⟨qk6, hf⟩ := hf
    replace hf := xb_some hf
    obtain ⟨r7, e8, hf⟩ := hf
    refine r_callv rfl xvX1_slotNumber xm5_106 (kf_b_slotNumber (d := d) L0 e8) qk6.1 qk6.2 (by decide) rfl rfl (dl (by decide)) (by decide) (Nat.le_of_ble_eq_true rfl) ?_
    rintro _ _ ⟨⟨rfl, rfl⟩, L9⟩
    refine XS.go (XS.lcl (L3 := [some (.ref t), some (.int a0), some (.int a1), some (.ref a2), some (.int a3), some (.int r7.1), none, none]) (s_istore rfl (Nat.le_of_ble_eq_true rfl)) rfl) ?_
    refine XS.go (s_iload rfl rfl) ?_
    refine r_if_ne (tgt := 61) rfl rfl (fun qc10 => ?_) (fun qc10 => ?_)
    · replace hf := xi_pos hf qc10
      refine XS.go (s_aloadn rfl rfl rfl) ?_
      replace hf := xi_none hf
      obtain ⟨qk11, hf⟩ := hf
      replace hf := xb_some hf
      obtain ⟨b12, qr13, hf⟩ := hf
      refine XS.go (s_getr rfl xf5_21 qk11.1 qk11.2 (by decide) rfl qr13) ?_
      refine XS.go (s_aloadn rfl rfl rfl) ?_
      replace hf := xi_none hf
      obtain ⟨qk14, hf⟩ := hf
      refine XS.go (s_getie rfl xf5_95 qk14.1 qk14.2 (by decide) rfl rfl) ?_
      refine XS.go (s_aloadn rfl rfl rfl) ?_
      refine XS.go (s_getie rfl xf5_114 qk14.1 qk14.2 (by decide) rfl rfl) ?_
      replace hf := xi_none hf
      obtain ⟨qk15, hf⟩ := hf
      replace hf := xb_some hf
      obtain ⟨r16, e17, hf⟩ := hf
      refine r_callv rfl xvX9_bytesOf xm5_116 (kf_s_bytesOf (d := d) L9 e17) qk15.1 qk15.2 (by decide) rfl rfl (dl (by decide)) (by decide) (Nat.le_of_ble_eq_true rfl) ?_
      rintro _ _ ⟨⟨rfl, rfl⟩, L18⟩
      refine XS.go (XS.lcl (L3 := [some (.ref t), some (.int a0), some (.int a1), some (.ref a2), some (.int a3), some (.int r7.1), some (.int r16.1), none]) (s_istore rfl (Nat.le_of_ble_eq_true rfl)) rfl) ?_
      refine XS.go (s_aloadn rfl rfl rfl) ?_
      replace hf := xi_none hf
      obtain ⟨qk19, hf⟩ := hf
      replace hf := xb_some hf
      obtain ⟨b20, qr21, hf⟩ := hf
      refine XS.go (s_getr rfl xf5_21 qk19.1 qk19.2 (by decide) rfl qr21) ?_
      refine XS.go (s_aloadn rfl rfl rfl) ?_
      replace hf := xi_none hf
      obtain ⟨qk22, hf⟩ := hf
      refine XS.go (s_getie rfl xf5_95 qk22.1 qk22.2 (by decide) rfl rfl) ?_
      refine XS.go (s_aloadn rfl rfl rfl) ?_
      refine XS.go (s_getie rfl xf5_114 qk22.1 qk22.2 (by decide) rfl rfl) ?_
      replace hf := xi_none hf
      obtain ⟨qk23, hf⟩ := hf
      replace hf := xb_some hf
      obtain ⟨r24, e25, hf⟩ := hf
      refine r_callv rfl xvX9_alignmentOf xm5_119 (kf_s_alignmentOf (d := d) L18 e25) qk23.1 qk23.2 (by decide) rfl rfl (dl (by decide)) (by decide) (Nat.le_of_ble_eq_true rfl) ?_
      rintro _ _ ⟨⟨rfl, rfl⟩, L26⟩
      refine XS.go (XS.lcl (L3 := [some (.ref t), some (.int a0), some (.int a1), some (.ref a2), some (.int a3), some (.int r7.1), some (.int r16.1), some (.int r24.1)]) (s_istore rfl (Nat.le_of_ble_eq_true rfl)) rfl) ?_
      refine XS.go (s_aloadn rfl rfl rfl) ?_
      refine XS.go (s_iloadn rfl rfl rfl) ?_
      refine XS.go (s_iloadn rfl rfl rfl) ?_
      refine XS.go (s_aloadn rfl rfl rfl) ?_
      replace hf := xi_none hf
      obtain ⟨qk27, hf⟩ := hf
      refine XS.go (s_getie rfl xf5_103 qk27.1 qk27.2 (by decide) rfl rfl) ?_
      refine XS.go (s_iload rfl rfl) ?_
      refine XS.go (s_iload rfl rfl) ?_
      replace hf := xi_none hf
      obtain ⟨qk28, hf⟩ := hf
      replace hf := xb_some hf
      obtain ⟨r29, e30, hf⟩ := hf
      refine r_callv rfl xvX5_liesWell xm5_122 (kf_j_liesWell (d := d) L26 e30) qk28.1 qk28.2 (by decide) rfl rfl (dl (by decide)) (by decide) (Nat.le_of_ble_eq_true rfl) ?_
      rintro _ _ ⟨⟨rfl, rfl⟩, L31⟩
      refine r_if_ne (tgt := 114) rfl rfl (fun qc32 => ?_) (fun qc32 => ?_)
      · replace hf := xi_pos hf qc32
        refine XS.go (s_aloadn rfl rfl rfl) ?_
        replace hf := xi_none hf
        obtain ⟨qk33, hf⟩ := hf
        refine XS.go (s_getie rfl xf5_95 qk33.1 qk33.2 (by decide) rfl rfl) ?_
        refine XS.go (s_iconst (v := 5) rfl rfl) ?_
        refine r_icmp_ne (tgt := 141) rfl rfl (fun qc34 => ?_) (fun qc34 => ?_)
        · replace hf := xi_pos hf qc34
          refine XS.go (s_aloadn rfl rfl rfl) ?_
          refine XS.go (s_iloadn rfl rfl rfl) ?_
          refine XS.go (s_iload rfl rfl) ?_
          refine XS.go (s_iadd rfl) ?_
          refine XS.go (s_aloadn rfl rfl rfl) ?_
          refine XS.go (s_getie rfl xf5_95 qk33.1 qk33.2 (by decide) rfl rfl) ?_
          refine XS.go (s_aloadn rfl rfl rfl) ?_
          refine XS.go (s_getie rfl xf5_114 qk33.1 qk33.2 (by decide) rfl rfl) ?_
          refine XS.go (s_iload rfl rfl) ?_
          replace hf := xi_none hf
          obtain ⟨qk35, hf⟩ := hf
          replace hf := xb_some hf
          obtain ⟨r36, e37, hf⟩ := hf
          refine r_callv rfl xvX5_isContent xm5_133 (kf_j_isContent (d := d) hKT L31 e37) qk35.1 qk35.2 (by decide) rfl rfl (dl (by decide)) (by decide) (Nat.le_of_ble_eq_true rfl) ?_
          rintro _ _ ⟨⟨rfl, rfl⟩, L38⟩
          replace hf := xi_none hf
          obtain ⟨qk39, hf⟩ := hf
          cases hf
          exact XR.retz rfl rfl qk39 (fun hret => ⟨_, hret, ⟨rfl, rfl⟩, L38⟩)
        · replace hf := xi_neg hf qc34
          refine XS.go (s_aloadn rfl rfl rfl) ?_
          refine XS.go (s_iloadn rfl rfl rfl) ?_
          refine XS.go (s_iload rfl rfl) ?_
          refine XS.go (s_iadd rfl) ?_
          refine XS.go (s_aloadn rfl rfl rfl) ?_
          refine XS.go (s_getie rfl xf5_126 qk33.1 qk33.2 (by decide) rfl rfl) ?_
          refine XS.go (s_aloadn rfl rfl rfl) ?_
          refine XS.go (s_getie rfl xf5_114 qk33.1 qk33.2 (by decide) rfl rfl) ?_
          refine XS.go (s_iload rfl rfl) ?_
          replace hf := xi_none hf
          obtain ⟨qk40, hf⟩ := hf
          replace hf := xb_some hf
          obtain ⟨r41, e42, hf⟩ := hf
          refine r_callv rfl xvX5_isVector xm5_129 (kf_j_isVector (d := d) hKT L31 e42) qk40.1 qk40.2 (by decide) rfl rfl (dl (by decide)) (by decide) (Nat.le_of_ble_eq_true rfl) ?_
          rintro _ _ ⟨⟨rfl, rfl⟩, L43⟩
          replace hf := xi_none hf
          obtain ⟨qk44, hf⟩ := hf
          cases hf
          exact XR.retz rfl rfl qk44 (fun hret => ⟨_, hret, ⟨rfl, rfl⟩, L43⟩)
      · replace hf := xi_neg hf qc32
        refine XS.go (s_iconst (v := 0) rfl rfl) ?_
        cases hf
        exact XR.retz rfl rfl (by decide) (fun hret => ⟨_, hret, ⟨rfl, rfl⟩, L31⟩)
    · replace hf := xi_neg hf qc10
      refine XS.go (s_aloadn rfl rfl rfl) ?_
      replace hf := xi_none hf
      obtain ⟨qk45, hf⟩ := hf
      refine XS.go (s_getze rfl xf5_110 qk45.1 qk45.2 (by decide) rfl rfl) ?_
      refine r_if_eq (tgt := 55) rfl rfl (fun qc46 => ?_) (fun qc46 => ?_)
      · replace hf := xi_pos hf qc46
        exact XR.forget (L2 := [none, none, none, none, none, none, none, none]) trivial (kb_j_isField_55 hKT L9 hf)
      · replace hf := xi_neg hf qc46
        refine XS.go (s_aloadn rfl rfl rfl) ?_
        refine XS.go (s_bipush (v := 9) rfl rfl) ?_
        refine XS.go (s_iloadn rfl rfl rfl) ?_
        refine XS.go (s_i2l rfl) ?_
        replace hf := xi_none hf
        obtain ⟨qk47, hf⟩ := hf
        replace hf := xb_some hf
        obtain ⟨r48, e49, hf⟩ := hf
        refine r_callv rfl xvX5_wrong xm5_32 (kf_j_wrong (d := d) L9 e49) qk47.1 qk47.2 (by decide) rfl rfl (dl0 (by decide)) (by decide) (Nat.le_of_ble_eq_true rfl) ?_
        rintro _ _ ⟨⟨rfl, rfl⟩, L50⟩
        refine r_if_eq (tgt := 59) rfl rfl (fun qc51 => ?_) (fun qc51 => ?_)
        · replace hf := xi_pos hf qc51
          refine XS.go (s_iconst (v := 0) rfl rfl) ?_
          cases hf
          exact XR.retz rfl rfl (by decide) (fun hret => ⟨_, hret, ⟨rfl, rfl⟩, L50⟩)
        · replace hf := xi_neg hf qc51
          exact XR.forget (L2 := [none, none, none, none, none, none, none, none]) trivial (kb_j_isField_55 hKT L50 hf)
  · replace hf := xi_neg hf qc2
    refine XS.go (s_aloadn rfl rfl rfl) ?_
    refine XS.go (s_iloadn rfl rfl rfl) ?_
    refine XS.go (s_iloadn rfl rfl rfl) ?_
    refine XS.go (s_aloadn rfl rfl rfl) ?_
    refine XS.go (s_iload rfl rfl) ?_
    replace hf := xi_none hf
    obtain ⟨qk52, hf⟩ := hf
    replace hf := xb_some hf
    obtain ⟨r53, e54, hf⟩ := hf
    refine r_callv rfl xvX5_isUnion xm5_100 (kf_j_isUnion (d := d) hKT L0 e54) qk52.1 qk52.2 (by decide) rfl rfl (dl (by decide)) (by decide) (Nat.le_of_ble_eq_true rfl) ?_
    rintro _ _ ⟨⟨rfl, rfl⟩, L55⟩
    replace hf := xi_none hf
    obtain ⟨qk56, hf⟩ := hf
    cases hf
    exact XR.retz rfl rfl qk56 (fun hret => ⟨_, hret, ⟨rfl, rfl⟩, L55⟩)
def b_j_isTable_146 (KT : Nat → Int32 → Int32 → Int32 → XH → Option (Int32 × XH)) (K106 : Nat → Int32 → Int32 → Option Nat → Int32 → Int32 → XH → Option (Int32 × XH)) (x0 : Nat) (x3 : Int32) (x4 : Int32) (x5 : Option Nat) (x6 : Int32) (x7 : Int32) (h : XH) : Option (Int32 × XH) := (K106 x0 x3 x4 x5 x6 (x7 + 1) h)
set_option maxRecDepth 20000 in
theorem kb_j_isTable_146 {l : Launch} {G : XG} {d : Nat} {KT : Nat → Int32 → Int32 → Int32 → XH → Option (Int32 × XH)} {K106 : Nat → Int32 → Int32 → Option Nat → Int32 → Int32 → XH → Option (Int32 × XH)} {x0 : Nat} {x3 : Int32} {x4 : Int32} {x5 : Option Nat} {x6 : Int32} {x7 : Int32} {h : XH} {r : Int32 × XH} (hKT : ∀ (t : Nat) (a0 : Int32) (a1 : Int32) (a2 : Int32) (h : XH) (r : Int32 × XH), LY h → KT t a0 a1 a2 h = some r → XC l G xEX5_isTable d [.ref t, .int a0, .int a1, .int a2] h (fun v h2 => (h2 = r.2 ∧ v = some (.int r.1)) ∧ LY r.2)) (hK106 : ∀ (x0 : Nat) (x3 : Int32) (x4 : Int32) (x5 : Option Nat) (x6 : Int32) (x7 : Int32) (h : XH), LY h → K106 x0 x3 x4 x5 x6 x7 h = some r → XR l G xEX5_isTable (d + 5) (106, [some (.ref x0), none, none, some (.int x3), some (.int x4), some (va_rf x5), some (.int x6), some (.int x7), none], [], h) (fun C => ∃ v, xRet xEX5_isTable C v ∧ (C.2.2.2 = r.2 ∧ v = some (.int r.1)) ∧ LY r.2)) (L0 : LY h) (hf : b_j_isTable_146 KT K106 x0 x3 x4 x5 x6 x7 h = some r) : XR l G xEX5_isTable (d + 5) (146, [some (.ref x0), none, none, some (.int x3), some (.int x4), some (va_rf x5), some (.int x6), some (.int x7), none], [], h) (fun C => ∃ v, xRet xEX5_isTable C v ∧ (C.2.2.2 = r.2 ∧ v = some (.int r.1)) ∧ LY r.2) := by
  unfold b_j_isTable_146 at hf
  refine XS.go (XS.lcl (L3 := [some (.ref x0), none, none, some (.int x3), some (.int x4), some (va_rf x5), some (.int x6), some (.int (x7 + 1)), none]) (s_inc rfl rfl (Nat.le_of_ble_eq_true rfl)) rfl) ?_
  refine XS.go (s_goto (tgt := 106) rfl rfl) ?_
  exact XR.forget (L2 := [some (.ref x0), none, none, some (.int x3), some (.int x4), some (va_rf x5), some (.int x6), some (.int (x7 + 1)), none]) ⟨rfl, ⟨rfl, ⟨rfl, ⟨rfl, ⟨rfl, ⟨rfl, trivial⟩⟩⟩⟩⟩⟩ (hK106 x0 x3 x4 x5 x6 (x7 + 1) _ L0 hf)
def s_j_isTable_106 (KT : Nat → Int32 → Int32 → Int32 → XH → Option (Int32 × XH)) (K106 : Nat → Int32 → Int32 → Option Nat → Int32 → Int32 → XH → Option (Int32 × XH)) (x0 : Nat) (x3 : Int32) (x4 : Int32) (x5 : Option Nat) (x6 : Int32) (x7 : Int32) (h : XH) : Option (Int32 × XH) := (Option.bind (x5) fun b1 => (if b1 < hz h ∧ hk h b1 = 2 then (if (hi h b1 3) ≤ x7 then (some (1, h)) else (Option.bind (f_d_fieldAt b1 x7 h) fun r5 => (Option.elim (r5.1) (b_j_isTable_146 KT K106 x0 x3 x4 (some b1) x6 x7 r5.2) fun b9 => (if x0 < hz r5.2 ∧ hk r5.2 x0 = 5 then (Option.bind (f_j_isField KT x0 x4 x6 b9 x3 r5.2) fun r11 => (if ¬ r11.1 = 0 then (b_j_isTable_146 KT K106 x0 x3 x4 (some b1) x6 x7 r11.2) else (some (0, r11.2)))) else none)))) else none))
set_option maxRecDepth 20000 in
theorem ks_j_isTable_106 {l : Launch} {G : XG} {d : Nat} {KT : Nat → Int32 → Int32 → Int32 → XH → Option (Int32 × XH)} {K106 : Nat → Int32 → Int32 → Option Nat → Int32 → Int32 → XH → Option (Int32 × XH)} {x0 : Nat} {x3 : Int32} {x4 : Int32} {x5 : Option Nat} {x6 : Int32} {x7 : Int32} {h : XH} {r : Int32 × XH} (hKT : ∀ (t : Nat) (a0 : Int32) (a1 : Int32) (a2 : Int32) (h : XH) (r : Int32 × XH), LY h → KT t a0 a1 a2 h = some r → XC l G xEX5_isTable d [.ref t, .int a0, .int a1, .int a2] h (fun v h2 => (h2 = r.2 ∧ v = some (.int r.1)) ∧ LY r.2)) (hK106 : ∀ (x0 : Nat) (x3 : Int32) (x4 : Int32) (x5 : Option Nat) (x6 : Int32) (x7 : Int32) (h : XH), LY h → K106 x0 x3 x4 x5 x6 x7 h = some r → XR l G xEX5_isTable (d + 5) (106, [some (.ref x0), none, none, some (.int x3), some (.int x4), some (va_rf x5), some (.int x6), some (.int x7), none], [], h) (fun C => ∃ v, xRet xEX5_isTable C v ∧ (C.2.2.2 = r.2 ∧ v = some (.int r.1)) ∧ LY r.2)) (L0 : LY h) (hf : s_j_isTable_106 KT K106 x0 x3 x4 x5 x6 x7 h = some r) : XR l G xEX5_isTable (d + 5) (106, [some (.ref x0), none, none, some (.int x3), some (.int x4), some (va_rf x5), some (.int x6), some (.int x7), none], [], h) (fun C => ∃ v, xRet xEX5_isTable C v ∧ (C.2.2.2 = r.2 ∧ v = some (.int r.1)) ∧ LY r.2) := by
  unfold s_j_isTable_106 at hf
  refine XS.go (s_iload rfl rfl) ?_
  refine XS.go (s_aloadO rfl rfl) ?_
  replace hf := xb_some hf
  obtain ⟨b1, qo2, hf⟩ := hf
  try rw [qo2]
  replace hf := xi_none hf
  obtain ⟨qk3, hf⟩ := hf
  refine XS.go (s_getie rfl xf5_80 qk3.1 qk3.2 (by decide) rfl rfl) ?_
  refine r_icmp_ge (tgt := 152) rfl rfl (fun qc4 => ?_) (fun qc4 => ?_)
  · replace hf := xi_pos hf qc4
    refine XS.go (s_iconst (v := 1) rfl rfl) ?_
    cases hf
    exact XR.retz rfl rfl (by decide) (fun hret => ⟨_, hret, ⟨rfl, rfl⟩, L0⟩)
  · replace hf := xi_neg hf qc4
    refine XS.go (s_aload rfl rfl) ?_
    refine XS.go (s_iload rfl rfl) ?_
    replace hf := xb_some hf
    obtain ⟨r5, e6, hf⟩ := hf
    refine r_callv rfl xvX2_fieldAt xm5_85 (kf_d_fieldAt (d := d) L0 e6) qk3.1 qk3.2 (by decide) rfl rfl (dl0 (by decide)) (by decide) (Nat.le_of_ble_eq_true rfl) ?_
    rintro _ _ ⟨⟨rfl, rfl⟩, L7⟩
    refine XS.go (XS.lcl (L3 := [some (.ref x0), none, none, some (.int x3), some (.int x4), some (.ref b1), some (.int x6), some (.int x7), some (va_rf r5.1)]) (s_astoreO rfl (Nat.le_of_ble_eq_true rfl)) rfl) ?_
    refine XS.go (s_aloadO rfl rfl) ?_
    refine r_ifnull (tgt := 146) rfl rfl (fun qn8 => ?_) (fun b9 qn8 => ?_)
    · replace hf := xo_none hf qn8
      try rw [qn8]
      exact XR.forget (L2 := [some (.ref x0), none, none, some (.int x3), some (.int x4), some (.ref b1), some (.int x6), some (.int x7), none]) ⟨rfl, ⟨rfl, ⟨rfl, ⟨rfl, ⟨rfl, ⟨rfl, trivial⟩⟩⟩⟩⟩⟩ (kb_j_isTable_146 hKT hK106 L7 hf)
    · replace hf := xo_some hf qn8
      try rw [qn8]
      refine XS.go (s_aloadn rfl rfl rfl) ?_
      refine XS.go (s_iload rfl rfl) ?_
      refine XS.go (s_iload rfl rfl) ?_
      refine XS.go (s_aload rfl rfl) ?_
      refine XS.go (s_iloadn rfl rfl rfl) ?_
      replace hf := xi_none hf
      obtain ⟨qk10, hf⟩ := hf
      replace hf := xb_some hf
      obtain ⟨r11, e12, hf⟩ := hf
      refine r_callv rfl xvX5_isField xm5_89 (kf_j_isField (d := d) hKT L7 e12) qk10.1 qk10.2 (by decide) rfl rfl (dl (by decide)) (by decide) (Nat.le_of_ble_eq_true rfl) ?_
      rintro _ _ ⟨⟨rfl, rfl⟩, L13⟩
      refine r_if_ne (tgt := 146) rfl rfl (fun qc14 => ?_) (fun qc14 => ?_)
      · replace hf := xi_pos hf qc14
        exact XR.forget (L2 := [some (.ref x0), none, none, some (.int x3), some (.int x4), some (.ref b1), some (.int x6), some (.int x7), none]) ⟨rfl, ⟨rfl, ⟨rfl, ⟨rfl, ⟨rfl, ⟨rfl, trivial⟩⟩⟩⟩⟩⟩ (kb_j_isTable_146 hKT hK106 L13 hf)
      · replace hf := xi_neg hf qc14
        refine XS.go (s_iconst (v := 0) rfl rfl) ?_
        cases hf
        exact XR.retz rfl rfl (by decide) (fun hret => ⟨_, hret, ⟨rfl, rfl⟩, L13⟩)
def b_j_isTable_106 (KT : Nat → Int32 → Int32 → Int32 → XH → Option (Int32 × XH)) : Nat → Nat → Int32 → Int32 → Option Nat → Int32 → Int32 → XH → Option (Int32 × XH)
  | 0, _, _, _, _, _, _, _ => none
  | n + 1, x0, x3, x4, x5, x6, x7, h => s_j_isTable_106 KT (b_j_isTable_106 KT n) x0 x3 x4 x5 x6 x7 h
theorem kb_j_isTable_106 {l : Launch} {G : XG} {d : Nat} {KT : Nat → Int32 → Int32 → Int32 → XH → Option (Int32 × XH)} {n : Nat} {x0 : Nat} {x3 : Int32} {x4 : Int32} {x5 : Option Nat} {x6 : Int32} {x7 : Int32} {h : XH} {r : Int32 × XH} (hKT : ∀ (t : Nat) (a0 : Int32) (a1 : Int32) (a2 : Int32) (h : XH) (r : Int32 × XH), LY h → KT t a0 a1 a2 h = some r → XC l G xEX5_isTable d [.ref t, .int a0, .int a1, .int a2] h (fun v h2 => (h2 = r.2 ∧ v = some (.int r.1)) ∧ LY r.2)) (L0 : LY h) (hf : b_j_isTable_106 KT n x0 x3 x4 x5 x6 x7 h = some r) : XR l G xEX5_isTable (d + 5) (106, [some (.ref x0), none, none, some (.int x3), some (.int x4), some (va_rf x5), some (.int x6), some (.int x7), none], [], h) (fun C => ∃ v, xRet xEX5_isTable C v ∧ (C.2.2.2 = r.2 ∧ v = some (.int r.1)) ∧ LY r.2) := by
  induction n generalizing x0 x3 x4 x5 x6 x7 h with
  | zero => cases hf
  | succ n ih => exact ks_j_isTable_106 hKT (fun x0 x3 x4 x5 x6 x7 h L0 hf => ih (h := h) (x0 := x0) (x3 := x3) (x4 := x4) (x5 := x5) (x6 := x6) (x7 := x7) L0 hf) L0 hf
def g_j_isTable (KT : Nat → Int32 → Int32 → Int32 → XH → Option (Int32 × XH)) (t : Nat) (a0 : Int32) (a1 : Int32) (a2 : Int32) (h : XH) : Option (Int32 × XH) := (if t < hz h ∧ hk h t = 5 then (Option.bind (f_j_isReference t a0 h) fun r16 => (if ¬ r16.1 = 0 then (if a2 ≤ 16 then (if t < hz r16.2 ∧ hk r16.2 t = 5 then (if (hi r16.2 t 3) < 200 then (Option.bind (hr r16.2 t 1) fun b23 => (if b23 < hz r16.2 ∧ hk r16.2 b23 = 1 then (Option.bind (f_b_behind b23 a0 (hsi r16.2 t 3 ((hi r16.2 t 3) + 1))) fun r26 => (if t < hz r26.2 ∧ hk r26.2 t = 5 then (Option.bind (hr r26.2 t 0) fun b30 => (if b30 < hz r26.2 ∧ hk r26.2 b30 = 9 then (Option.bind (hr r26.2 b30 1) fun b33 => (if b33 < hz r26.2 ∧ hk r26.2 b33 = 4 then (Option.bind (f_g_at b33 a1 r26.2) fun r36 => (Option.elim (r36.1) (some (0, r36.2)) fun b40 => (if t < hz r36.2 ∧ hk r36.2 t = 5 then (Option.bind (f_j_isList t r26.1 r36.2) fun r42 => (if ¬ r42.1 = 0 then (if t < hz r42.2 ∧ hk r42.2 t = 5 then (Option.bind (hr r42.2 t 1) fun b47 => (if b47 < hz r42.2 ∧ hk r42.2 b47 = 1 then (Option.bind (f_b_listOf b47 r26.1 r42.2) fun r50 => (b_j_isTable_106 KT 100000 t a2 r26.1 (some b40) (Int64.toInt32 r50.1) 0 r50.2)) else none)) else none) else (some (0, r42.2)))) else none))) else none)) else none)) else none)) else none)) else (Option.bind (f_j_wrong t 5 (Int32.toInt64 a0) r16.2) fun r53 => (if r53.1 = 0 ∨ r53.1 = 1 then (some (r53.1, r53.2)) else none))) else none) else (if t < hz r16.2 ∧ hk r16.2 t = 5 then (Option.bind (f_j_wrong t 4 (Int32.toInt64 a0) r16.2) fun r58 => (if r58.1 = 0 ∨ r58.1 = 1 then (some (r58.1, r58.2)) else none)) else none)) else (some (0, r16.2)))) else none)
set_option maxRecDepth 20000 in
theorem kg_j_isTable {l : Launch} {G : XG} {d : Nat} {KT : Nat → Int32 → Int32 → Int32 → XH → Option (Int32 × XH)} {t : Nat} {a0 : Int32} {a1 : Int32} {a2 : Int32} {h : XH} {r : Int32 × XH} (hKT : ∀ (t : Nat) (a0 : Int32) (a1 : Int32) (a2 : Int32) (h : XH) (r : Int32 × XH), LY h → KT t a0 a1 a2 h = some r → XC l G xEX5_isTable d [.ref t, .int a0, .int a1, .int a2] h (fun v h2 => (h2 = r.2 ∧ v = some (.int r.1)) ∧ LY r.2)) (L0 : LY h) (hf : g_j_isTable KT t a0 a1 a2 h = some r) : XC l G xEX5_isTable (d + 5) [.ref t, .int a0, .int a1, .int a2] h (fun v h2 => (h2 = r.2 ∧ v = some (.int r.1)) ∧ LY r.2) := by
  refine XC.virt xvX5_isTable (Nat.le_of_ble_eq_true rfl) ?_
  unfold g_j_isTable at hf
  refine XR.norm (L3 := [some (.ref t), some (.int a0), some (.int a1), some (.int a2), none, none, none, none, none]) rfl ?_
  refine XS.go (s_aloadn rfl rfl rfl) ?_
  refine XS.go (s_iloadn rfl rfl rfl) ?_
  replace hf := xi_none hf
  obtain ⟨qk15, hf⟩ := hf
  replace hf := xb_some hf
  obtain ⟨r16, e17, hf⟩ := hf
  refine r_callv rfl xvX5_isReference xm5_55 (kf_j_isReference (d := d) L0 e17) qk15.1 qk15.2 (by decide) rfl rfl (dl (by decide)) (by decide) (Nat.le_of_ble_eq_true rfl) ?_
  rintro _ _ ⟨⟨rfl, rfl⟩, L18⟩
  refine r_if_ne (tgt := 10) rfl rfl (fun qc19 => ?_) (fun qc19 => ?_)
  · replace hf := xi_pos hf qc19
    refine XS.go (s_iloadn rfl rfl rfl) ?_
    refine XS.go (s_bipush (v := 16) rfl rfl) ?_
    refine r_icmp_le (tgt := 24) rfl rfl (fun qc20 => ?_) (fun qc20 => ?_)
    · replace hf := xi_pos hf qc20
      refine XS.go (s_aloadn rfl rfl rfl) ?_
      replace hf := xi_none hf
      obtain ⟨qk21, hf⟩ := hf
      refine XS.go (s_getie rfl xf5_9 qk21.1 qk21.2 (by decide) rfl rfl) ?_
      refine XS.go (s_sipush (v := 200) rfl rfl) ?_
      refine r_icmp_lt (tgt := 42) rfl rfl (fun qc22 => ?_) (fun qc22 => ?_)
      · replace hf := xi_pos hf qc22
        refine XS.go (s_aloadn rfl rfl rfl) ?_
        refine XS.go (s_dup rfl rfl) ?_
        refine XS.go (s_getie rfl xf5_9 qk21.1 qk21.2 (by decide) rfl rfl) ?_
        refine XS.go (s_iconst (v := 1) rfl rfl) ?_
        refine XS.go (s_iadd rfl) ?_
        refine XS.go (s_puti rfl xf5_9 qk21.1 qk21.2 (by decide) rfl (Or.inl rfl)) ?_
        refine XS.go (s_aloadn rfl rfl rfl) ?_
        replace hf := xb_some hf
        obtain ⟨b23, qr24, hf⟩ := hf
        refine XS.go (s_getr rfl xf5_25 (show t < hz _ by simp only [hz_hsi, hk_hsi, hz_hsj, hk_hsj]; exact qk21.1) (by simp only [hz_hsi, hk_hsi, hz_hsj, hk_hsj]; exact qk21.2) (by decide) rfl (by simp only [hr_hsi, hr_hsj]; exact qr24)) ?_
        refine XS.go (s_iloadn rfl rfl rfl) ?_
        replace hf := xi_none hf
        obtain ⟨qk25, hf⟩ := hf
        replace hf := xb_some hf
        obtain ⟨r26, e27, hf⟩ := hf
        refine r_callv rfl xvX1_behind xm5_59 (kf_b_behind (d := d) (by simp only [LY_si, LY_sj]; exact L18) e27) (show b23 < hz _ by simp only [hz_hsi, hk_hsi, hz_hsj, hk_hsj]; exact qk25.1) (by simp only [hz_hsi, hk_hsi, hz_hsj, hk_hsj]; exact qk25.2) (by decide) rfl rfl (dl (by decide)) (by decide) (Nat.le_of_ble_eq_true rfl) ?_
        rintro _ _ ⟨⟨rfl, rfl⟩, L28⟩
        refine XS.go (XS.lcl (L3 := [some (.ref t), some (.int a0), some (.int a1), some (.int a2), some (.int r26.1), none, none, none, none]) (s_istore rfl (Nat.le_of_ble_eq_true rfl)) rfl) ?_
        refine XS.go (s_aloadn rfl rfl rfl) ?_
        replace hf := xi_none hf
        obtain ⟨qk29, hf⟩ := hf
        replace hf := xb_some hf
        obtain ⟨b30, qr31, hf⟩ := hf
        refine XS.go (s_getr rfl xf5_21 qk29.1 qk29.2 (by decide) rfl qr31) ?_
        replace hf := xi_none hf
        obtain ⟨qk32, hf⟩ := hf
        replace hf := xb_some hf
        obtain ⟨b33, qr34, hf⟩ := hf
        refine XS.go (s_getr rfl xf5_63 qk32.1 qk32.2 (by decide) rfl qr34) ?_
        refine XS.go (s_iloadn rfl rfl rfl) ?_
        replace hf := xi_none hf
        obtain ⟨qk35, hf⟩ := hf
        replace hf := xb_some hf
        obtain ⟨r36, e37, hf⟩ := hf
        refine r_callv rfl xvX4_at xm5_67 (kf_g_at (d := d) L28 e37) qk35.1 qk35.2 (by decide) rfl rfl (dl0 (by decide)) (by decide) (Nat.le_of_ble_eq_true rfl) ?_
        rintro _ _ ⟨⟨rfl, rfl⟩, L38⟩
        refine XS.go (XS.lcl (L3 := [some (.ref t), some (.int a0), some (.int a1), some (.int a2), some (.int r26.1), some (va_rf r36.1), none, none, none]) (s_astoreO rfl (Nat.le_of_ble_eq_true rfl)) rfl) ?_
        refine XS.go (s_aloadO rfl rfl) ?_
        refine r_ifnull (tgt := 89) rfl rfl (fun qn39 => ?_) (fun b40 qn39 => ?_)
        · replace hf := xo_none hf qn39
          try rw [qn39]
          refine XS.go (s_iconst (v := 0) rfl rfl) ?_
          cases hf
          exact XR.retz rfl rfl (by decide) (fun hret => ⟨_, hret, ⟨rfl, rfl⟩, L38⟩)
        · replace hf := xo_some hf qn39
          try rw [qn39]
          refine XS.go (s_aloadn rfl rfl rfl) ?_
          refine XS.go (s_iload rfl rfl) ?_
          replace hf := xi_none hf
          obtain ⟨qk41, hf⟩ := hf
          replace hf := xb_some hf
          obtain ⟨r42, e43, hf⟩ := hf
          refine r_callv rfl xvX5_isList xm5_73 (kf_j_isList (d := d) L38 e43) qk41.1 qk41.2 (by decide) rfl rfl (dl (by decide)) (by decide) (Nat.le_of_ble_eq_true rfl) ?_
          rintro _ _ ⟨⟨rfl, rfl⟩, L44⟩
          refine r_if_ne (tgt := 91) rfl rfl (fun qc45 => ?_) (fun qc45 => ?_)
          · replace hf := xi_pos hf qc45
            refine XS.go (s_aloadn rfl rfl rfl) ?_
            replace hf := xi_none hf
            obtain ⟨qk46, hf⟩ := hf
            replace hf := xb_some hf
            obtain ⟨b47, qr48, hf⟩ := hf
            refine XS.go (s_getr rfl xf5_25 qk46.1 qk46.2 (by decide) rfl qr48) ?_
            refine XS.go (s_iload rfl rfl) ?_
            replace hf := xi_none hf
            obtain ⟨qk49, hf⟩ := hf
            replace hf := xb_some hf
            obtain ⟨r50, e51, hf⟩ := hf
            refine r_callv rfl xvX1_listOf xm5_76 (kf_b_listOf (d := d) L44 e51) qk49.1 qk49.2 (by decide) rfl rfl (dl (by decide)) (by decide) (Nat.le_of_ble_eq_true rfl) ?_
            rintro _ _ ⟨⟨rfl, rfl⟩, L52⟩
            refine XS.go (s_l2i rfl) ?_
            refine XS.go (XS.lcl (L3 := [some (.ref t), some (.int a0), some (.int a1), some (.int a2), some (.int r26.1), some (.ref b40), some (.int (Int64.toInt32 r50.1)), none, none]) (s_istore rfl (Nat.le_of_ble_eq_true rfl)) rfl) ?_
            refine XS.go (s_iconst (v := 0) rfl rfl) ?_
            refine XS.go (XS.lcl (L3 := [some (.ref t), some (.int a0), some (.int a1), some (.int a2), some (.int r26.1), some (.ref b40), some (.int (Int64.toInt32 r50.1)), some (.int 0), none]) (s_istore rfl (Nat.le_of_ble_eq_true rfl)) rfl) ?_
            exact XR.forget (L2 := [some (.ref t), none, none, some (.int a2), some (.int r26.1), some (.ref b40), some (.int (Int64.toInt32 r50.1)), some (.int 0), none]) ⟨rfl, ⟨rfl, ⟨rfl, ⟨rfl, ⟨rfl, ⟨rfl, trivial⟩⟩⟩⟩⟩⟩ (kb_j_isTable_106 hKT L52 hf)
          · replace hf := xi_neg hf qc45
            refine XS.go (s_iconst (v := 0) rfl rfl) ?_
            cases hf
            exact XR.retz rfl rfl (by decide) (fun hret => ⟨_, hret, ⟨rfl, rfl⟩, L44⟩)
      · replace hf := xi_neg hf qc22
        refine XS.go (s_aloadn rfl rfl rfl) ?_
        refine XS.go (s_iconst (v := 5) rfl rfl) ?_
        refine XS.go (s_iloadn rfl rfl rfl) ?_
        refine XS.go (s_i2l rfl) ?_
        replace hf := xb_some hf
        obtain ⟨r53, e54, hf⟩ := hf
        refine r_callv rfl xvX5_wrong xm5_32 (kf_j_wrong (d := d) L18 e54) qk21.1 qk21.2 (by decide) rfl rfl (dl0 (by decide)) (by decide) (Nat.le_of_ble_eq_true rfl) ?_
        rintro _ _ ⟨⟨rfl, rfl⟩, L55⟩
        replace hf := xi_none hf
        obtain ⟨qk56, hf⟩ := hf
        cases hf
        exact XR.retz rfl rfl qk56 (fun hret => ⟨_, hret, ⟨rfl, rfl⟩, L55⟩)
    · replace hf := xi_neg hf qc20
      refine XS.go (s_aloadn rfl rfl rfl) ?_
      refine XS.go (s_iconst (v := 4) rfl rfl) ?_
      refine XS.go (s_iloadn rfl rfl rfl) ?_
      refine XS.go (s_i2l rfl) ?_
      replace hf := xi_none hf
      obtain ⟨qk57, hf⟩ := hf
      replace hf := xb_some hf
      obtain ⟨r58, e59, hf⟩ := hf
      refine r_callv rfl xvX5_wrong xm5_32 (kf_j_wrong (d := d) L18 e59) qk57.1 qk57.2 (by decide) rfl rfl (dl0 (by decide)) (by decide) (Nat.le_of_ble_eq_true rfl) ?_
      rintro _ _ ⟨⟨rfl, rfl⟩, L60⟩
      replace hf := xi_none hf
      obtain ⟨qk61, hf⟩ := hf
      cases hf
      exact XR.retz rfl rfl qk61 (fun hret => ⟨_, hret, ⟨rfl, rfl⟩, L60⟩)
  · replace hf := xi_neg hf qc19
    refine XS.go (s_iconst (v := 0) rfl rfl) ?_
    cases hf
    exact XR.retz rfl rfl (by decide) (fun hret => ⟨_, hret, ⟨rfl, rfl⟩, L18⟩)
def f_j_isTable : Nat → Nat → Int32 → Int32 → Int32 → XH → Option (Int32 × XH)
  | 0, _, _, _, _, _ => none
  | n + 1, t, a0, a1, a2, h => g_j_isTable (f_j_isTable n) t a0 a1 a2 h
theorem kf_j_isTable {l : Launch} {G : XG} {d n : Nat} {t : Nat} {a0 : Int32} {a1 : Int32} {a2 : Int32} {h : XH} {r : Int32 × XH} (L0 : LY h) (hf : f_j_isTable n t a0 a1 a2 h = some r) : XC l G xEX5_isTable (d + 5 * n) [.ref t, .int a0, .int a1, .int a2] h (fun v h2 => (h2 = r.2 ∧ v = some (.int r.1)) ∧ LY r.2) := by
  induction n generalizing t a0 a1 a2 h r with
  | zero => cases hf
  | succ n ih =>
    have e9 : d + 5 * (n + 1) = (d + 5 * n) + 5 := by omega
    rw [e9]
    exact kg_j_isTable (fun t a0 a1 a2 h r L0 hf => ih (h := h) (r := r) (t := t) (a0 := a0) (a1 := a1) (a2 := a2) L0 hf) L0 hf
