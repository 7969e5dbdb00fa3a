/-! Methods as functions of the heap -/
def f_j_accepts (t : Nat) (h : XH) : Option (Int32 × XH) := (if t < hz h ∧ hk h t = 5 then (if 4 ≤ (hi h t 2) then (Option.bind (hr h t 0) fun b3 => (if b3 < hz h ∧ hk h b3 = 9 then (Option.bind (f_j_isTable 40 t 0 (hi h b3 5) 1 h) fun r6 => (if r6.1 = 0 ∨ r6.1 = 1 then (some (r6.1, r6.2)) else none)) else none)) else (Option.bind (f_j_wrong t 1 (0 : Int64) h) fun r10 => (if r10.1 = 0 ∨ r10.1 = 1 then (some (r10.1, r10.2)) else none))) else none)
set_option maxRecDepth 20000 in
theorem kf_j_accepts {l : Launch} {G : XG} {d : Nat} {t : Nat} {h : XH} {r : Int32 × XH} (L0 : LY h) (hf : f_j_accepts t h = some r) : XC l G xEX5_accepts (d + 201) [.ref t] h (fun v h2 => (h2 = r.2 ∧ v = some (.int r.1)) ∧ LY r.2) := by
  refine XC.virt xvX5_accepts (Nat.le_of_ble_eq_true rfl) ?_
  unfold f_j_accepts at hf
  refine XR.norm (L3 := [some (.ref t)]) rfl ?_
  refine XS.go (s_aloadn rfl rfl rfl) ?_
  replace hf := xi_none hf
  obtain ⟨qk1, hf⟩ := hf
  refine XS.go (s_getie rfl xf5_29 qk1.1 qk1.2 (by decide) rfl rfl) ?_
  refine XS.go (s_iconst (v := 4) rfl rfl) ?_
  refine r_icmp_ge (tgt := 15) rfl rfl (fun qc2 => ?_) (fun qc2 => ?_)
  · replace hf := xi_pos hf qc2
    refine XS.go (s_aloadn rfl rfl rfl) ?_
    refine XS.go (s_iconst (v := 0) rfl rfl) ?_
    refine XS.go (s_aloadn rfl rfl rfl) ?_
    replace hf := xb_some hf
    obtain ⟨b3, qr4, hf⟩ := hf
    refine XS.go (s_getr rfl xf5_21 qk1.1 qk1.2 (by decide) rfl qr4) ?_
    replace hf := xi_none hf
    obtain ⟨qk5, hf⟩ := hf
    refine XS.go (s_getie rfl xf5_36 qk5.1 qk5.2 (by decide) rfl rfl) ?_
    refine XS.go (s_iconst (v := 1) rfl rfl) ?_
    replace hf := xb_some hf
    obtain ⟨r6, e7, hf⟩ := hf
    refine r_callv rfl xvX5_isTable xm5_41 (kf_j_isTable (n := 40) (d := d) L0 e7) qk1.1 qk1.2 (by decide) rfl rfl (dl (by decide)) (by decide) (Nat.le_of_ble_eq_true rfl) ?_
    rintro _ _ ⟨⟨rfl, rfl⟩, L8⟩
    replace hf := xi_none hf
    obtain ⟨qk9, hf⟩ := hf
    cases hf
    exact XR.retz rfl rfl qk9 (fun hret => ⟨_, hret, ⟨rfl, rfl⟩, L8⟩)
  · replace hf := xi_neg hf qc2
    refine XS.go (s_aloadn rfl rfl rfl) ?_
    refine XS.go (s_iconst (v := 1) rfl rfl) ?_
    refine XS.go (s_lconst (v := 0) rfl rfl) ?_
    replace hf := xb_some hf
    obtain ⟨r10, e11, hf⟩ := hf
    refine r_callv rfl xvX5_wrong xm5_32 (kf_j_wrong (d := d) L0 e11) qk1.1 qk1.2 (by decide) rfl rfl (dl0 (by decide)) (by decide) (Nat.le_of_ble_eq_true rfl) ?_
    rintro _ _ ⟨⟨rfl, rfl⟩, L12⟩
    replace hf := xi_none hf
    obtain ⟨qk13, hf⟩ := hf
    cases hf
    exact XR.retz rfl rfl qk13 (fun hret => ⟨_, hret, ⟨rfl, rfl⟩, L12⟩)
def f_x_kind (a0 : Int32) (h : XH) : Option (Int32 × XH) := (if a0 < 0 then (some (0, h)) else (if (hi h 7 4) ≤ a0 then (some (0, h)) else (if (nI 4001) ≤ a0 then (some (0, h)) else (some ((hi h 8 (Int32.toNatClampNeg a0)), h)))))
set_option maxRecDepth 20000 in
theorem kf_x_kind {l : Launch} {G : XG} {d : Nat} {a0 : Int32} {h : XH} {r : Int32 × XH} (L0 : LY h) (hf : f_x_kind a0 h = some r) : XC l G xEX6_kind d [.ref 7, .int a0] h (fun v h2 => (h2 = r.2 ∧ v = some (.int r.1)) ∧ LY r.2) := by
  refine XC.virt xvX6_kind (Nat.le_of_ble_eq_true rfl) ?_
  unfold f_x_kind at hf
  refine XR.norm (L3 := [some (.ref 7), some (.int a0)]) rfl ?_
  refine XS.go (s_iloadn rfl rfl rfl) ?_
  refine r_if_lt (tgt := 30) rfl rfl (fun qc1 => ?_) (fun qc1 => ?_)
  · replace hf := xi_pos hf qc1
    refine XS.go (s_iconst (v := 0) rfl rfl) ?_
    cases hf
    exact XR.reti rfl rfl (fun hret => ⟨_, hret, ⟨rfl, rfl⟩, L0⟩)
  · replace hf := xi_neg hf qc1
    refine XS.go (s_iloadn rfl rfl rfl) ?_
    refine XS.go (s_aloadn rfl rfl rfl) ?_
    refine XS.go (s_getie rfl xf6_25 (LY.lt L0 (by decide)) (LY.k7 L0) (by decide) rfl rfl) ?_
    refine r_icmp_ge (tgt := 30) rfl rfl (fun qc2 => ?_) (fun qc2 => ?_)
    · replace hf := xi_pos hf qc2
      refine XS.go (s_iconst (v := 0) rfl rfl) ?_
      cases hf
      exact XR.reti rfl rfl (fun hret => ⟨_, hret, ⟨rfl, rfl⟩, L0⟩)
    · replace hf := xi_neg hf qc2
      refine XS.go (s_iloadn rfl rfl rfl) ?_
      refine XS.go (s_aloadn rfl rfl rfl) ?_
      refine XS.go (s_getr rfl xf6_9 (LY.lt L0 (by decide)) (LY.k7 L0) (by decide) rfl (LY.r7_0 L0)) ?_
      refine XS.go (s_alene rfl (LY.lt L0 (by decide)) (LY.k8 L0) (LY.n8 L0) (by decide)) ?_
      refine r_icmp_ge (tgt := 30) rfl rfl (fun qc3 => ?_) (fun qc3 => ?_)
      · replace hf := xi_pos hf qc3
        refine XS.go (s_iconst (v := 0) rfl rfl) ?_
        cases hf
        exact XR.reti rfl rfl (fun hret => ⟨_, hret, ⟨rfl, rfl⟩, L0⟩)
      · replace hf := xi_neg hf qc3
        refine XS.go (s_aloadn rfl rfl rfl) ?_
        refine XS.go (s_getr rfl xf6_9 (LY.lt L0 (by decide)) (LY.k7 L0) (by decide) rfl (LY.r7_0 L0)) ?_
        refine XS.go (s_iloadn rfl rfl rfl) ?_
        refine XS.go (s_ialde rfl (LY.lt L0 (by decide)) (LY.k8 L0) (in_of (N := 4001) (LY.n8 L0) (by decide) qc1 qc3) rfl) ?_
        refine XS.go (s_goto (tgt := 31) rfl rfl) ?_
        cases hf
        exact XR.reti rfl rfl (fun hret => ⟨_, hret, ⟨rfl, rfl⟩, L0⟩)
def f_x_place (a0 : Int32) (h : XH) : Option (Int32 × XH) := (if a0 < 0 then (some (0, h)) else (if (hi h 7 4) ≤ a0 then (some (0, h)) else (if (nI 4001) ≤ a0 then (some (0, h)) else (some ((hi h 9 (Int32.toNatClampNeg a0)), h)))))
set_option maxRecDepth 20000 in
theorem kf_x_place {l : Launch} {G : XG} {d : Nat} {a0 : Int32} {h : XH} {r : Int32 × XH} (L0 : LY h) (hf : f_x_place a0 h = some r) : XC l G xEX6_place d [.ref 7, .int a0] h (fun v h2 => (h2 = r.2 ∧ v = some (.int r.1)) ∧ LY r.2) := by
  refine XC.virt xvX6_place (Nat.le_of_ble_eq_true rfl) ?_
  unfold f_x_place at hf
  refine XR.norm (L3 := [some (.ref 7), some (.int a0)]) rfl ?_
  refine XS.go (s_iloadn rfl rfl rfl) ?_
  refine r_if_lt (tgt := 30) rfl rfl (fun qc1 => ?_) (fun qc1 => ?_)
  · replace hf := xi_pos hf qc1
    refine XS.go (s_iconst (v := 0) rfl rfl) ?_
    cases hf
    exact XR.reti rfl rfl (fun hret => ⟨_, hret, ⟨rfl, rfl⟩, L0⟩)
  · replace hf := xi_neg hf qc1
    refine XS.go (s_iloadn rfl rfl rfl) ?_
    refine XS.go (s_aloadn rfl rfl rfl) ?_
    refine XS.go (s_getie rfl xf6_25 (LY.lt L0 (by decide)) (LY.k7 L0) (by decide) rfl rfl) ?_
    refine r_icmp_ge (tgt := 30) rfl rfl (fun qc2 => ?_) (fun qc2 => ?_)
    · replace hf := xi_pos hf qc2
      refine XS.go (s_iconst (v := 0) rfl rfl) ?_
      cases hf
      exact XR.reti rfl rfl (fun hret => ⟨_, hret, ⟨rfl, rfl⟩, L0⟩)
    · replace hf := xi_neg hf qc2
      refine XS.go (s_iloadn rfl rfl rfl) ?_
      refine XS.go (s_aloadn rfl rfl rfl) ?_
      refine XS.go (s_getr rfl xf6_15 (LY.lt L0 (by decide)) (LY.k7 L0) (by decide) rfl (LY.r7_1 L0)) ?_
      refine XS.go (s_alene rfl (LY.lt L0 (by decide)) (LY.k9 L0) (LY.n9 L0) (by decide)) ?_
      refine r_icmp_ge (tgt := 30) rfl rfl (fun qc3 => ?_) (fun qc3 => ?_)
      · replace hf := xi_pos hf qc3
        refine XS.go (s_iconst (v := 0) rfl rfl) ?_
        cases hf
        exact XR.reti rfl rfl (fun hret => ⟨_, hret, ⟨rfl, rfl⟩, L0⟩)
      · replace hf := xi_neg hf qc3
        refine XS.go (s_aloadn rfl rfl rfl) ?_
        refine XS.go (s_getr rfl xf6_15 (LY.lt L0 (by decide)) (LY.k7 L0) (by decide) rfl (LY.r7_1 L0)) ?_
        refine XS.go (s_iloadn rfl rfl rfl) ?_
        refine XS.go (s_ialde rfl (LY.lt L0 (by decide)) (LY.k9 L0) (in_of (N := 4001) (LY.n9 L0) (by decide) qc1 qc3) rfl) ?_
        refine XS.go (s_goto (tgt := 31) rfl rfl) ?_
        cases hf
        exact XR.reti rfl rfl (fun hret => ⟨_, hret, ⟨rfl, rfl⟩, L0⟩)
def f_x_head (a0 : Int32) (h : XH) : Option (Int64 × XH) := (if a0 < 0 then (some ((0 : Int64), h)) else (if (hi h 7 4) ≤ a0 then (some ((0 : Int64), h)) else (if (nI 4001) ≤ a0 then (some ((0 : Int64), h)) else (some ((hj h 10 (Int32.toNatClampNeg a0)), h)))))
set_option maxRecDepth 20000 in
theorem kf_x_head {l : Launch} {G : XG} {d : Nat} {a0 : Int32} {h : XH} {r : Int64 × XH} (L0 : LY h) (hf : f_x_head a0 h = some r) : XC l G xEX6_head d [.ref 7, .int a0] h (fun v h2 => (h2 = r.2 ∧ v = some (.long r.1)) ∧ LY r.2) := by
  refine XC.virt xvX6_head (Nat.le_of_ble_eq_true rfl) ?_
  unfold f_x_head at hf
  refine XR.norm (L3 := [some (.ref 7), some (.int a0)]) rfl ?_
  refine XS.go (s_iloadn rfl rfl rfl) ?_
  refine r_if_lt (tgt := 30) rfl rfl (fun qc1 => ?_) (fun qc1 => ?_)
  · replace hf := xi_pos hf qc1
    refine XS.go (s_lconst (v := 0) rfl rfl) ?_
    cases hf
    exact XR.retl rfl rfl (fun hret => ⟨_, hret, ⟨rfl, rfl⟩, L0⟩)
  · replace hf := xi_neg hf qc1
    refine XS.go (s_iloadn rfl rfl rfl) ?_
    refine XS.go (s_aloadn rfl rfl rfl) ?_
    refine XS.go (s_getie rfl xf6_25 (LY.lt L0 (by decide)) (LY.k7 L0) (by decide) rfl rfl) ?_
    refine r_icmp_ge (tgt := 30) rfl rfl (fun qc2 => ?_) (fun qc2 => ?_)
    · replace hf := xi_pos hf qc2
      refine XS.go (s_lconst (v := 0) rfl rfl) ?_
      cases hf
      exact XR.retl rfl rfl (fun hret => ⟨_, hret, ⟨rfl, rfl⟩, L0⟩)
    · replace hf := xi_neg hf qc2
      refine XS.go (s_iloadn rfl rfl rfl) ?_
      refine XS.go (s_aloadn rfl rfl rfl) ?_
      refine XS.go (s_getr rfl xf6_18 (LY.lt L0 (by decide)) (LY.k7 L0) (by decide) rfl (LY.r7_2 L0)) ?_
      refine XS.go (s_alene rfl (LY.lt L0 (by decide)) (LY.k10 L0) (LY.n10 L0) (by decide)) ?_
      refine r_icmp_ge (tgt := 30) rfl rfl (fun qc3 => ?_) (fun qc3 => ?_)
      · replace hf := xi_pos hf qc3
        refine XS.go (s_lconst (v := 0) rfl rfl) ?_
        cases hf
        exact XR.retl rfl rfl (fun hret => ⟨_, hret, ⟨rfl, rfl⟩, L0⟩)
      · replace hf := xi_neg hf qc3
        refine XS.go (s_aloadn rfl rfl rfl) ?_
        refine XS.go (s_getr rfl xf6_18 (LY.lt L0 (by decide)) (LY.k7 L0) (by decide) rfl (LY.r7_2 L0)) ?_
        refine XS.go (s_iloadn rfl rfl rfl) ?_
        refine XS.go (s_lalde rfl (LY.lt L0 (by decide)) (LY.k10 L0) (in_of (N := 4001) (LY.n10 L0) (by decide) qc1 qc3) rfl) ?_
        refine XS.go (s_goto (tgt := 31) rfl rfl) ?_
        cases hf
        exact XR.retl rfl rfl (fun hret => ⟨_, hret, ⟨rfl, rfl⟩, L0⟩)
def f_x_tail (a0 : Int32) (h : XH) : Option (Int64 × XH) := (if a0 < 0 then (some ((0 : Int64), h)) else (if (hi h 7 4) ≤ a0 then (some ((0 : Int64), h)) else (if (nI 4001) ≤ a0 then (some ((0 : Int64), h)) else (some ((hj h 11 (Int32.toNatClampNeg a0)), h)))))
set_option maxRecDepth 20000 in
theorem kf_x_tail {l : Launch} {G : XG} {d : Nat} {a0 : Int32} {h : XH} {r : Int64 × XH} (L0 : LY h) (hf : f_x_tail a0 h = some r) : XC l G xEX6_tail d [.ref 7, .int a0] h (fun v h2 => (h2 = r.2 ∧ v = some (.long r.1)) ∧ LY r.2) := by
  refine XC.virt xvX6_tail (Nat.le_of_ble_eq_true rfl) ?_
  unfold f_x_tail at hf
  refine XR.norm (L3 := [some (.ref 7), some (.int a0)]) rfl ?_
  refine XS.go (s_iloadn rfl rfl rfl) ?_
  refine r_if_lt (tgt := 30) rfl rfl (fun qc1 => ?_) (fun qc1 => ?_)
  · replace hf := xi_pos hf qc1
    refine XS.go (s_lconst (v := 0) rfl rfl) ?_
    cases hf
    exact XR.retl rfl rfl (fun hret => ⟨_, hret, ⟨rfl, rfl⟩, L0⟩)
  · replace hf := xi_neg hf qc1
    refine XS.go (s_iloadn rfl rfl rfl) ?_
    refine XS.go (s_aloadn rfl rfl rfl) ?_
    refine XS.go (s_getie rfl xf6_25 (LY.lt L0 (by decide)) (LY.k7 L0) (by decide) rfl rfl) ?_
    refine r_icmp_ge (tgt := 30) rfl rfl (fun qc2 => ?_) (fun qc2 => ?_)
    · replace hf := xi_pos hf qc2
      refine XS.go (s_lconst (v := 0) rfl rfl) ?_
      cases hf
      exact XR.retl rfl rfl (fun hret => ⟨_, hret, ⟨rfl, rfl⟩, L0⟩)
    · replace hf := xi_neg hf qc2
      refine XS.go (s_iloadn rfl rfl rfl) ?_
      refine XS.go (s_aloadn rfl rfl rfl) ?_
      refine XS.go (s_getr rfl xf6_22 (LY.lt L0 (by decide)) (LY.k7 L0) (by decide) rfl (LY.r7_3 L0)) ?_
      refine XS.go (s_alene rfl (LY.lt L0 (by decide)) (LY.k11 L0) (LY.n11 L0) (by decide)) ?_
      refine r_icmp_ge (tgt := 30) rfl rfl (fun qc3 => ?_) (fun qc3 => ?_)
      · replace hf := xi_pos hf qc3
        refine XS.go (s_lconst (v := 0) rfl rfl) ?_
        cases hf
        exact XR.retl rfl rfl (fun hret => ⟨_, hret, ⟨rfl, rfl⟩, L0⟩)
      · replace hf := xi_neg hf qc3
        refine XS.go (s_aloadn rfl rfl rfl) ?_
        refine XS.go (s_getr rfl xf6_22 (LY.lt L0 (by decide)) (LY.k7 L0) (by decide) rfl (LY.r7_3 L0)) ?_
        refine XS.go (s_iloadn rfl rfl rfl) ?_
        refine XS.go (s_lalde rfl (LY.lt L0 (by decide)) (LY.k11 L0) (in_of (N := 4001) (LY.n11 L0) (by decide) qc1 qc3) rfl) ?_
        refine XS.go (s_goto (tgt := 31) rfl rfl) ?_
        cases hf
        exact XR.retl rfl rfl (fun hret => ⟨_, hret, ⟨rfl, rfl⟩, L0⟩)
def f_x_isDigit (a0 : Int32) (h : XH) : Option (Int32 × XH) := (if a0 < 48 then (some (0, h)) else (if 57 < a0 then (some (0, h)) else (some (1, h))))
set_option maxRecDepth 20000 in
theorem kf_x_isDigit {l : Launch} {G : XG} {d : Nat} {a0 : Int32} {h : XH} {r : Int32 × XH} (L0 : LY h) (hf : f_x_isDigit a0 h = some r) : XC l G xEX6_isDigit d [.int a0] h (fun v h2 => (h2 = r.2 ∧ v = some (.int r.1)) ∧ LY r.2) := by
  refine XC.stat xsX6_isDigit (Nat.le_of_ble_eq_true rfl) ?_
  unfold f_x_isDigit at hf
  refine XR.norm (L3 := [some (.int a0)]) rfl ?_
  refine XS.go (s_iloadn rfl rfl rfl) ?_
  refine XS.go (s_bipush (v := 48) rfl rfl) ?_
  refine r_icmp_lt (tgt := 16) rfl rfl (fun qc1 => ?_) (fun qc1 => ?_)
  · replace hf := xi_pos hf qc1
    refine XS.go (s_iconst (v := 0) rfl rfl) ?_
    cases hf
    exact XR.retz rfl rfl (by decide) (fun hret => ⟨_, hret, ⟨rfl, rfl⟩, L0⟩)
  · replace hf := xi_neg hf qc1
    refine XS.go (s_iloadn rfl rfl rfl) ?_
    refine XS.go (s_bipush (v := 57) rfl rfl) ?_
    refine r_icmp_gt (tgt := 16) rfl rfl (fun qc2 => ?_) (fun qc2 => ?_)
    · replace hf := xi_pos hf qc2
      refine XS.go (s_iconst (v := 0) rfl rfl) ?_
      cases hf
      exact XR.retz rfl rfl (by decide) (fun hret => ⟨_, hret, ⟨rfl, rfl⟩, L0⟩)
    · replace hf := xi_neg hf qc2
      refine XS.go (s_iconst (v := 1) rfl rfl) ?_
      refine XS.go (s_goto (tgt := 17) rfl rfl) ?_
      cases hf
      exact XR.retz rfl rfl (by decide) (fun hret => ⟨_, hret, ⟨rfl, rfl⟩, L0⟩)
def b_x_isLetter_30 (h : XH) : Option (Int32 × XH) := (some (1, h))
set_option maxRecDepth 20000 in
theorem kb_x_isLetter_30 {l : Launch} {G : XG} {d : Nat} {h : XH} {r : Int32 × XH} (L0 : LY h) (hf : b_x_isLetter_30 h = some r) : XR l G xEX6_isLetter d (30, [none], [], h) (fun C => ∃ v, xRet xEX6_isLetter C v ∧ (C.2.2.2 = r.2 ∧ v = some (.int r.1)) ∧ LY r.2) := by
  unfold b_x_isLetter_30 at hf
  refine XS.go (s_iconst (v := 1) rfl rfl) ?_
  refine XS.go (s_goto (tgt := 35) rfl rfl) ?_
  cases hf
  exact XR.retz rfl rfl (by decide) (fun hret => ⟨_, hret, ⟨rfl, rfl⟩, L0⟩)
def b_x_isLetter_24 (x0 : Int32) (h : XH) : Option (Int32 × XH) := (if ¬ x0 = 95 then (some (0, h)) else (b_x_isLetter_30 h))
set_option maxRecDepth 20000 in
theorem kb_x_isLetter_24 {l : Launch} {G : XG} {d : Nat} {x0 : Int32} {h : XH} {r : Int32 × XH} (L0 : LY h) (hf : b_x_isLetter_24 x0 h = some r) : XR l G xEX6_isLetter d (24, [some (.int x0)], [], h) (fun C => ∃ v, xRet xEX6_isLetter C v ∧ (C.2.2.2 = r.2 ∧ v = some (.int r.1)) ∧ LY r.2) := by
  unfold b_x_isLetter_24 at hf
  refine XS.go (s_iloadn rfl rfl rfl) ?_
  refine XS.go (s_bipush (v := 95) rfl rfl) ?_
  refine r_icmp_ne (tgt := 34) rfl rfl (fun qc1 => ?_) (fun qc1 => ?_)
  · replace hf := xi_pos hf qc1
    refine XS.go (s_iconst (v := 0) rfl rfl) ?_
    cases hf
    exact XR.retz rfl rfl (by decide) (fun hret => ⟨_, hret, ⟨rfl, rfl⟩, L0⟩)
  · replace hf := xi_neg hf qc1
    exact XR.forget (L2 := [none]) trivial (kb_x_isLetter_30 L0 hf)
def b_x_isLetter_12 (x0 : Int32) (h : XH) : Option (Int32 × XH) := (if x0 < 97 then (b_x_isLetter_24 x0 h) else (if x0 ≤ 122 then (b_x_isLetter_30 h) else (b_x_isLetter_24 x0 h)))
set_option maxRecDepth 20000 in
theorem kb_x_isLetter_12 {l : Launch} {G : XG} {d : Nat} {x0 : Int32} {h : XH} {r : Int32 × XH} (L0 : LY h) (hf : b_x_isLetter_12 x0 h = some r) : XR l G xEX6_isLetter d (12, [some (.int x0)], [], h) (fun C => ∃ v, xRet xEX6_isLetter C v ∧ (C.2.2.2 = r.2 ∧ v = some (.int r.1)) ∧ LY r.2) := by
  unfold b_x_isLetter_12 at hf
  refine XS.go (s_iloadn rfl rfl rfl) ?_
  refine XS.go (s_bipush (v := 97) rfl rfl) ?_
  refine r_icmp_lt (tgt := 24) rfl rfl (fun qc2 => ?_) (fun qc2 => ?_)
  · replace hf := xi_pos hf qc2
    exact XR.forget (L2 := [some (.int x0)]) ⟨rfl, trivial⟩ (kb_x_isLetter_24 L0 hf)
  · replace hf := xi_neg hf qc2
    refine XS.go (s_iloadn rfl rfl rfl) ?_
    refine XS.go (s_bipush (v := 122) rfl rfl) ?_
    refine r_icmp_le (tgt := 30) rfl rfl (fun qc3 => ?_) (fun qc3 => ?_)
    · replace hf := xi_pos hf qc3
      exact XR.forget (L2 := [none]) trivial (kb_x_isLetter_30 L0 hf)
    · replace hf := xi_neg hf qc3
      exact XR.forget (L2 := [some (.int x0)]) ⟨rfl, trivial⟩ (kb_x_isLetter_24 L0 hf)
def f_x_isLetter (a0 : Int32) (h : XH) : Option (Int32 × XH) := (if a0 < 65 then (b_x_isLetter_12 a0 h) else (if a0 ≤ 90 then (b_x_isLetter_30 h) else (b_x_isLetter_12 a0 h)))
set_option maxRecDepth 20000 in
theorem kf_x_isLetter {l : Launch} {G : XG} {d : Nat} {a0 : Int32} {h : XH} {r : Int32 × XH} (L0 : LY h) (hf : f_x_isLetter a0 h = some r) : XC l G xEX6_isLetter d [.int a0] h (fun v h2 => (h2 = r.2 ∧ v = some (.int r.1)) ∧ LY r.2) := by
  refine XC.stat xsX6_isLetter (Nat.le_of_ble_eq_true rfl) ?_
  unfold f_x_isLetter at hf
  refine XR.norm (L3 := [some (.int a0)]) rfl ?_
  refine XS.go (s_iloadn rfl rfl rfl) ?_
  refine XS.go (s_bipush (v := 65) rfl rfl) ?_
  refine r_icmp_lt (tgt := 12) rfl rfl (fun qc4 => ?_) (fun qc4 => ?_)
  · replace hf := xi_pos hf qc4
    exact XR.forget (L2 := [some (.int a0)]) ⟨rfl, trivial⟩ (kb_x_isLetter_12 L0 hf)
  · replace hf := xi_neg hf qc4
    refine XS.go (s_iloadn rfl rfl rfl) ?_
    refine XS.go (s_bipush (v := 90) rfl rfl) ?_
    refine r_icmp_le (tgt := 30) rfl rfl (fun qc5 => ?_) (fun qc5 => ?_)
    · replace hf := xi_pos hf qc5
      exact XR.forget (L2 := [none]) trivial (kb_x_isLetter_30 L0 hf)
    · replace hf := xi_neg hf qc5
      exact XR.forget (L2 := [some (.int a0)]) ⟨rfl, trivial⟩ (kb_x_isLetter_12 L0 hf)
def f_x_keep (a0 : Int32) (a1 : Int32) (a2 : Int64) (a3 : Int64) (h : XH) : Option (Int32 × XH) := (if (hi h 7 4) < 0 then (some (a0, h)) else (if (nI 4001) ≤ (hi h 7 4) then (some (a0, h)) else (some (a0, (hsi (hsj (hsj (hsi (hsi h 8 (Int32.toNatClampNeg (hi h 7 4)) a0) 9 (Int32.toNatClampNeg (hi h 7 4)) a1) 10 (Int32.toNatClampNeg (hi h 7 4)) a2) 11 (Int32.toNatClampNeg (hi h 7 4)) a3) 7 4 ((hi h 7 4) + 1))))))
set_option maxRecDepth 20000 in
theorem kf_x_keep {l : Launch} {G : XG} {d : Nat} {a0 : Int32} {a1 : Int32} {a2 : Int64} {a3 : Int64} {h : XH} {r : Int32 × XH} (L0 : LY h) (hf : f_x_keep a0 a1 a2 a3 h = some r) : XC l G xEX6_keep d [.ref 7, .int a0, .int a1, .long a2, .long a3] h (fun v h2 => (h2 = r.2 ∧ v = some (.int r.1)) ∧ LY r.2) := by
  refine XC.virt xvX6_keep (Nat.le_of_ble_eq_true rfl) ?_
  unfold f_x_keep at hf
  refine XR.norm (L3 := [some (.ref 7), some (.int a0), some (.int a1), some (.long a2), none, some (.long a3), none]) rfl ?_
  refine XS.go (s_aloadn rfl rfl rfl) ?_
  refine XS.go (s_getie rfl xf6_25 (LY.lt L0 (by decide)) (LY.k7 L0) (by decide) rfl rfl) ?_
  refine r_if_lt (tgt := 70) rfl rfl (fun qc1 => ?_) (fun qc1 => ?_)
  · replace hf := xi_pos hf qc1
    refine XS.go (s_iloadn rfl rfl rfl) ?_
    cases hf
    exact XR.reti rfl rfl (fun hret => ⟨_, hret, ⟨rfl, rfl⟩, L0⟩)
  · replace hf := xi_neg hf qc1
    refine XS.go (s_aloadn rfl rfl rfl) ?_
    refine XS.go (s_getie rfl xf6_25 (LY.lt L0 (by decide)) (LY.k7 L0) (by decide) rfl rfl) ?_
    refine XS.go (s_aloadn rfl rfl rfl) ?_
    refine XS.go (s_getr rfl xf6_9 (LY.lt L0 (by decide)) (LY.k7 L0) (by decide) rfl (LY.r7_0 L0)) ?_
    refine XS.go (s_alene rfl (LY.lt L0 (by decide)) (LY.k8 L0) (LY.n8 L0) (by decide)) ?_
    refine r_icmp_ge (tgt := 70) rfl rfl (fun qc2 => ?_) (fun qc2 => ?_)
    · replace hf := xi_pos hf qc2
      refine XS.go (s_iloadn rfl rfl rfl) ?_
      cases hf
      exact XR.reti rfl rfl (fun hret => ⟨_, hret, ⟨rfl, rfl⟩, L0⟩)
    · replace hf := xi_neg hf qc2
      refine XS.go (s_aloadn rfl rfl rfl) ?_
      refine XS.go (s_getr rfl xf6_9 (LY.lt L0 (by decide)) (LY.k7 L0) (by decide) rfl (LY.r7_0 L0)) ?_
      refine XS.go (s_aloadn rfl rfl rfl) ?_
      refine XS.go (s_getie rfl xf6_25 (LY.lt L0 (by decide)) (LY.k7 L0) (by decide) rfl rfl) ?_
      refine XS.go (s_iloadn rfl rfl rfl) ?_
      refine XS.go (s_iast rfl (LY.lt L0 (by decide)) (LY.k8 L0) (in_of (N := 4001) (LY.n8 L0) (by decide) qc1 qc2)) ?_
      refine XS.go (s_aloadn rfl rfl rfl) ?_
      refine XS.go (s_getr rfl xf6_15 (LY.lt (by simp only [LY_si, LY_sj]; exact L0) (by decide)) (LY.k7 (by simp only [LY_si, LY_sj]; exact L0)) (by decide) rfl (LY.r7_1 (by simp only [LY_si, LY_sj]; exact L0))) ?_
      refine XS.go (s_aloadn rfl rfl rfl) ?_
      refine XS.go (s_getie rfl xf6_25 (LY.lt (by simp only [LY_si, LY_sj]; exact L0) (by decide)) (LY.k7 (by simp only [LY_si, LY_sj]; exact L0)) (by decide) rfl (hi_hsi_na (by decide))) ?_
      refine XS.go (s_iloadn rfl rfl rfl) ?_
      refine XS.go (s_iast rfl (LY.lt (by simp only [LY_si, LY_sj]; exact L0) (by decide)) (LY.k9 (by simp only [LY_si, LY_sj]; exact L0)) (in_of (N := 4001) (LY.n9 (by simp only [LY_si, LY_sj]; exact L0)) (by decide) qc1 qc2)) ?_
      refine XS.go (s_aloadn rfl rfl rfl) ?_
      refine XS.go (s_getr rfl xf6_18 (LY.lt (by simp only [LY_si, LY_sj]; exact L0) (by decide)) (LY.k7 (by simp only [LY_si, LY_sj]; exact L0)) (by decide) rfl (LY.r7_2 (by simp only [LY_si, LY_sj]; exact L0))) ?_
      refine XS.go (s_aloadn rfl rfl rfl) ?_
      refine XS.go (s_getie rfl xf6_25 (LY.lt (by simp only [LY_si, LY_sj]; exact L0) (by decide)) (LY.k7 (by simp only [LY_si, LY_sj]; exact L0)) (by decide) rfl ((hi_hsi_na (by decide)).trans (hi_hsi_na (by decide)))) ?_
      refine XS.go (s_lloadn rfl rfl rfl) ?_
      refine XS.go (s_last rfl (LY.lt (by simp only [LY_si, LY_sj]; exact L0) (by decide)) (LY.k10 (by simp only [LY_si, LY_sj]; exact L0)) (in_of (N := 4001) (LY.n10 (by simp only [LY_si, LY_sj]; exact L0)) (by decide) qc1 qc2)) ?_
      refine XS.go (s_aloadn rfl rfl rfl) ?_
      refine XS.go (s_getr rfl xf6_22 (LY.lt (by simp only [LY_si, LY_sj]; exact L0) (by decide)) (LY.k7 (by simp only [LY_si, LY_sj]; exact L0)) (by decide) rfl (LY.r7_3 (by simp only [LY_si, LY_sj]; exact L0))) ?_
      refine XS.go (s_aloadn rfl rfl rfl) ?_
      refine XS.go (s_getie rfl xf6_25 (LY.lt (by simp only [LY_si, LY_sj]; exact L0) (by decide)) (LY.k7 (by simp only [LY_si, LY_sj]; exact L0)) (by decide) rfl ((congrFun hi_hsj _).trans ((hi_hsi_na (by decide)).trans (hi_hsi_na (by decide))))) ?_
      refine XS.go (s_lload rfl rfl) ?_
      refine XS.go (s_last rfl (LY.lt (by simp only [LY_si, LY_sj]; exact L0) (by decide)) (LY.k11 (by simp only [LY_si, LY_sj]; exact L0)) (in_of (N := 4001) (LY.n11 (by simp only [LY_si, LY_sj]; exact L0)) (by decide) qc1 qc2)) ?_
      refine XS.go (s_aloadn rfl rfl rfl) ?_
      refine XS.go (s_dup rfl rfl) ?_
      refine XS.go (s_getie rfl xf6_25 (LY.lt (by simp only [LY_si, LY_sj]; exact L0) (by decide)) (LY.k7 (by simp only [LY_si, LY_sj]; exact L0)) (by decide) rfl ((congrFun hi_hsj _).trans ((congrFun hi_hsj _).trans ((hi_hsi_na (by decide)).trans (hi_hsi_na (by decide)))))) ?_
      refine XS.go (s_iconst (v := 1) rfl rfl) ?_
      refine XS.go (s_iadd rfl) ?_
      refine XS.go (s_puti rfl xf6_25 (LY.lt (by simp only [LY_si, LY_sj]; exact L0) (by decide)) (LY.k7 (by simp only [LY_si, LY_sj]; exact L0)) (by decide) rfl (Or.inl rfl)) ?_
      refine XS.go (s_iloadn rfl rfl rfl) ?_
      cases hf
      exact XR.reti rfl rfl (fun hret => ⟨_, hret, ⟨rfl, rfl⟩, (by simp only [LY_si, LY_sj]; exact L0)⟩)
def b_x_isBlank_24 (h : XH) : Option (Int32 × XH) := (some (1, h))
set_option maxRecDepth 20000 in
theorem kb_x_isBlank_24 {l : Launch} {G : XG} {d : Nat} {h : XH} {r : Int32 × XH} (L0 : LY h) (hf : b_x_isBlank_24 h = some r) : XR l G xEX6_isBlank d (24, [none], [], h) (fun C => ∃ v, xRet xEX6_isBlank C v ∧ (C.2.2.2 = r.2 ∧ v = some (.int r.1)) ∧ LY r.2) := by
  unfold b_x_isBlank_24 at hf
  refine XS.go (s_iconst (v := 1) rfl rfl) ?_
  refine XS.go (s_goto (tgt := 29) rfl rfl) ?_
  cases hf
  exact XR.retz rfl rfl (by decide) (fun hret => ⟨_, hret, ⟨rfl, rfl⟩, L0⟩)
def f_x_isBlank (a0 : Int32) (h : XH) : Option (Int32 × XH) := (if a0 = 32 then (b_x_isBlank_24 h) else (if a0 = 9 then (b_x_isBlank_24 h) else (if a0 = 10 then (b_x_isBlank_24 h) else (if ¬ a0 = 13 then (some (0, h)) else (b_x_isBlank_24 h)))))
set_option maxRecDepth 20000 in
theorem kf_x_isBlank {l : Launch} {G : XG} {d : Nat} {a0 : Int32} {h : XH} {r : Int32 × XH} (L0 : LY h) (hf : f_x_isBlank a0 h = some r) : XC l G xEX6_isBlank d [.int a0] h (fun v h2 => (h2 = r.2 ∧ v = some (.int r.1)) ∧ LY r.2) := by
  refine XC.stat xsX6_isBlank (Nat.le_of_ble_eq_true rfl) ?_
  unfold f_x_isBlank at hf
  refine XR.norm (L3 := [some (.int a0)]) rfl ?_
  refine XS.go (s_iloadn rfl rfl rfl) ?_
  refine XS.go (s_bipush (v := 32) rfl rfl) ?_
  refine r_icmp_eq (tgt := 24) rfl rfl (fun qc1 => ?_) (fun qc1 => ?_)
  · replace hf := xi_pos hf qc1
    exact XR.forget (L2 := [none]) trivial (kb_x_isBlank_24 L0 hf)
  · replace hf := xi_neg hf qc1
    refine XS.go (s_iloadn rfl rfl rfl) ?_
    refine XS.go (s_bipush (v := 9) rfl rfl) ?_
    refine r_icmp_eq (tgt := 24) rfl rfl (fun qc2 => ?_) (fun qc2 => ?_)
    · replace hf := xi_pos hf qc2
      exact XR.forget (L2 := [none]) trivial (kb_x_isBlank_24 L0 hf)
    · replace hf := xi_neg hf qc2
      refine XS.go (s_iloadn rfl rfl rfl) ?_
      refine XS.go (s_bipush (v := 10) rfl rfl) ?_
      refine r_icmp_eq (tgt := 24) rfl rfl (fun qc3 => ?_) (fun qc3 => ?_)
      · replace hf := xi_pos hf qc3
        exact XR.forget (L2 := [none]) trivial (kb_x_isBlank_24 L0 hf)
      · replace hf := xi_neg hf qc3
        refine XS.go (s_iloadn rfl rfl rfl) ?_
        refine XS.go (s_bipush (v := 13) rfl rfl) ?_
        refine r_icmp_ne (tgt := 28) rfl rfl (fun qc4 => ?_) (fun qc4 => ?_)
        · replace hf := xi_pos hf qc4
          refine XS.go (s_iconst (v := 0) rfl rfl) ?_
          cases hf
          exact XR.retz rfl rfl (by decide) (fun hret => ⟨_, hret, ⟨rfl, rfl⟩, L0⟩)
        · replace hf := xi_neg hf qc4
          exact XR.forget (L2 := [none]) trivial (kb_x_isBlank_24 L0 hf)
def b_x_skipBlanks_75 (K2 : Nat → Int32 → XH → Option (Unit × XH)) (x1 : Nat) (x2 : Int32) (h : XH) : Option (Unit × XH) := (K2 x1 x2 (hsi h 7 5 ((hi h 7 5) + 1)))
set_option maxRecDepth 20000 in
theorem kb_x_skipBlanks_75 {l : Launch} {G : XG} {d : Nat} {K2 : Nat → Int32 → XH → Option (Unit × XH)} {x1 : Nat} {x2 : Int32} {h : XH} {r : Unit × XH} (hK2 : ∀ (x1 : Nat) (x2 : Int32) (h : XH), LY h → K2 x1 x2 h = some r → XR l G xEX6_skipBlanks (d + 2) (2, [some (.ref 7), some (.ref x1), some (.int x2), none], [], h) (fun C => ∃ v, xRet xEX6_skipBlanks C v ∧ (C.2.2.2 = r.2 ∧ v = none) ∧ LY r.2)) (L0 : LY h) (hf : b_x_skipBlanks_75 K2 x1 x2 h = some r) : XR l G xEX6_skipBlanks (d + 2) (75, [some (.ref 7), some (.ref x1), some (.int x2), none], [], h) (fun C => ∃ v, xRet xEX6_skipBlanks C v ∧ (C.2.2.2 = r.2 ∧ v = none) ∧ LY r.2) := by
  unfold b_x_skipBlanks_75 at hf
  refine XS.go (s_aloadn rfl rfl rfl) ?_
  refine XS.go (s_dup rfl rfl) ?_
  refine XS.go (s_getie rfl xf6_29 (LY.lt L0 (by decide)) (LY.k7 L0) (by decide) rfl rfl) ?_
  refine XS.go (s_iconst (v := 1) rfl rfl) ?_
  refine XS.go (s_iadd rfl) ?_
  refine XS.go (s_puti rfl xf6_29 (LY.lt L0 (by decide)) (LY.k7 L0) (by decide) rfl (Or.inl rfl)) ?_
  refine XS.go (s_goto (tgt := 2) rfl rfl) ?_
  exact XR.forget (L2 := [some (.ref 7), some (.ref x1), some (.int x2), none]) ⟨rfl, ⟨rfl, ⟨rfl, trivial⟩⟩⟩ (hK2 x1 x2 _ (by simp only [LY_si, LY_sj]; exact L0) hf)
def b_x_skipBlanks_67 (K2 : Nat → Int32 → XH → Option (Unit × XH)) (x1 : Nat) (x2 : Int32) (x3 : Int32) (h : XH) : Option (Unit × XH) := (Option.bind (f_x_isBlank x3 h) fun r1 => (if ¬ r1.1 = 0 then (b_x_skipBlanks_75 K2 x1 x2 r1.2) else (some ((), r1.2))))
set_option maxRecDepth 20000 in
theorem kb_x_skipBlanks_67 {l : Launch} {G : XG} {d : Nat} {K2 : Nat → Int32 → XH → Option (Unit × XH)} {x1 : Nat} {x2 : Int32} {x3 : Int32} {h : XH} {r : Unit × XH} (hK2 : ∀ (x1 : Nat) (x2 : Int32) (h : XH), LY h → K2 x1 x2 h = some r → XR l G xEX6_skipBlanks (d + 2) (2, [some (.ref 7), some (.ref x1), some (.int x2), none], [], h) (fun C => ∃ v, xRet xEX6_skipBlanks C v ∧ (C.2.2.2 = r.2 ∧ v = none) ∧ LY r.2)) (L0 : LY h) (hf : b_x_skipBlanks_67 K2 x1 x2 x3 h = some r) : XR l G xEX6_skipBlanks (d + 2) (67, [some (.ref 7), some (.ref x1), some (.int x2), some (.int x3)], [], h) (fun C => ∃ v, xRet xEX6_skipBlanks C v ∧ (C.2.2.2 = r.2 ∧ v = none) ∧ LY r.2) := by
  unfold b_x_skipBlanks_67 at hf
  refine XS.go (s_iloadn rfl rfl rfl) ?_
  replace hf := xb_some hf
  obtain ⟨r1, e2, hf⟩ := hf
  refine r_calls rfl xsX6_isBlank xm6_76 (kf_x_isBlank (d := d) L0 e2) rfl rfl (dl0 (by decide)) (by decide) (Nat.le_of_ble_eq_true rfl) ?_
  rintro _ _ ⟨⟨rfl, rfl⟩, L3⟩
  refine r_if_ne (tgt := 75) rfl rfl (fun qc4 => ?_) (fun qc4 => ?_)
  · replace hf := xi_pos hf qc4
    exact XR.forget (L2 := [some (.ref 7), some (.ref x1), some (.int x2), none]) ⟨rfl, ⟨rfl, ⟨rfl, trivial⟩⟩⟩ (kb_x_skipBlanks_75 hK2 L3 hf)
  · replace hf := xi_neg hf qc4
    cases hf
    exact XR.retv rfl rfl (fun hret => ⟨_, hret, ⟨rfl, rfl⟩, L3⟩)
def b_x_skipBlanks_37 (K2 : Nat → Int32 → XH → Option (Unit × XH)) (x1 : Nat) (y0 : Int32) (h : XH) : Option (Unit × XH) := (b_x_skipBlanks_75 K2 x1 y0 h)
set_option maxRecDepth 20000 in
theorem kb_x_skipBlanks_37 {l : Launch} {G : XG} {d : Nat} {K2 : Nat → Int32 → XH → Option (Unit × XH)} {x1 : Nat} {y0 : Int32} {h : XH} {r : Unit × XH} (hK2 : ∀ (x1 : Nat) (x2 : Int32) (h : XH), LY h → K2 x1 x2 h = some r → XR l G xEX6_skipBlanks (d + 2) (2, [some (.ref 7), some (.ref x1), some (.int x2), none], [], h) (fun C => ∃ v, xRet xEX6_skipBlanks C v ∧ (C.2.2.2 = r.2 ∧ v = none) ∧ LY r.2)) (L0 : LY h) (hf : b_x_skipBlanks_37 K2 x1 y0 h = some r) : XR l G xEX6_skipBlanks (d + 2) (37, [some (.ref 7), some (.ref x1), none, none], [(.int y0)], h) (fun C => ∃ v, xRet xEX6_skipBlanks C v ∧ (C.2.2.2 = r.2 ∧ v = none) ∧ LY r.2) := by
  unfold b_x_skipBlanks_37 at hf
  refine XS.go (XS.lcl (L3 := [some (.ref 7), some (.ref x1), some (.int y0), none]) (s_istoren rfl rfl (Nat.le_of_ble_eq_true rfl)) rfl) ?_
  refine XS.go (s_goto (tgt := 75) rfl rfl) ?_
  exact XR.forget (L2 := [some (.ref 7), some (.ref x1), some (.int y0), none]) ⟨rfl, ⟨rfl, ⟨rfl, trivial⟩⟩⟩ (kb_x_skipBlanks_75 hK2 L0 hf)
def s_x_skipBlanks_2 (K2 : Nat → Int32 → XH → Option (Unit × XH)) (x1 : Nat) (x2 : Int32) (h : XH) : Option (Unit × XH) := (if x1 < hz h ∧ hk h x1 = 1 then (if (hi h x1 1) ≤ (hi h 7 5) then (some ((), h)) else (Option.bind (f_b_octet x1 (hi h 7 5) h) fun r7 => (if x2 = 0 then (if ¬ r7.1 = 47 then (b_x_skipBlanks_67 K2 x1 x2 r7.1 r7.2) else (if x1 < hz r7.2 ∧ hk r7.2 x1 = 1 then (Option.bind (f_b_octetOrNone x1 ((hi r7.2 7 5) + 1) r7.2) fun r13 => (if ¬ r13.1 = 47 then (b_x_skipBlanks_67 K2 x1 x2 r7.1 r13.2) else (b_x_skipBlanks_75 K2 x1 1 r13.2))) else none)) else (if r7.1 = 10 then (b_x_skipBlanks_37 K2 x1 0 r7.2) else (b_x_skipBlanks_37 K2 x1 1 r7.2))))) else none)
set_option maxRecDepth 20000 in
theorem ks_x_skipBlanks_2 {l : Launch} {G : XG} {d : Nat} {K2 : Nat → Int32 → XH → Option (Unit × XH)} {x1 : Nat} {x2 : Int32} {h : XH} {r : Unit × XH} (hK2 : ∀ (x1 : Nat) (x2 : Int32) (h : XH), LY h → K2 x1 x2 h = some r → XR l G xEX6_skipBlanks (d + 2) (2, [some (.ref 7), some (.ref x1), some (.int x2), none], [], h) (fun C => ∃ v, xRet xEX6_skipBlanks C v ∧ (C.2.2.2 = r.2 ∧ v = none) ∧ LY r.2)) (L0 : LY h) (hf : s_x_skipBlanks_2 K2 x1 x2 h = some r) : XR l G xEX6_skipBlanks (d + 2) (2, [some (.ref 7), some (.ref x1), some (.int x2), none], [], h) (fun C => ∃ v, xRet xEX6_skipBlanks C v ∧ (C.2.2.2 = r.2 ∧ v = none) ∧ LY r.2) := by
  unfold s_x_skipBlanks_2 at hf
  refine XS.go (s_aloadn rfl rfl rfl) ?_
  refine XS.go (s_getie rfl xf6_29 (LY.lt L0 (by decide)) (LY.k7 L0) (by decide) rfl rfl) ?_
  refine XS.go (s_aloadn rfl rfl rfl) ?_
  replace hf := xi_none hf
  obtain ⟨qk5, hf⟩ := hf
  refine XS.go (s_getie rfl xf6_70 qk5.1 qk5.2 (by decide) rfl rfl) ?_
  refine r_icmp_ge (tgt := 88) rfl rfl (fun qc6 => ?_) (fun qc6 => ?_)
  · replace hf := xi_pos hf qc6
    cases hf
    exact XR.retv rfl rfl (fun hret => ⟨_, hret, ⟨rfl, rfl⟩, L0⟩)
  · replace hf := xi_neg hf qc6
    refine XS.go (s_aloadn rfl rfl rfl) ?_
    refine XS.go (s_aloadn rfl rfl rfl) ?_
    refine XS.go (s_getie rfl xf6_29 (LY.lt L0 (by decide)) (LY.k7 L0) (by decide) rfl rfl) ?_
    replace hf := xb_some hf
    obtain ⟨r7, e8, hf⟩ := hf
    refine r_callv rfl xvX1_octet xm6_73 (kf_b_octet (d := d) L0 e8) qk5.1 qk5.2 (by decide) rfl rfl (dl0 (by decide)) (by decide) (Nat.le_of_ble_eq_true rfl) ?_
    rintro _ _ ⟨⟨rfl, rfl⟩, L9⟩
    refine XS.go (XS.lcl (L3 := [some (.ref 7), some (.ref x1), some (.int x2), some (.int r7.1)]) (s_istoren rfl rfl (Nat.le_of_ble_eq_true rfl)) rfl) ?_
    refine XS.go (s_iloadn rfl rfl rfl) ?_
    refine r_if_eq (tgt := 41) rfl rfl (fun qc10 => ?_) (fun qc10 => ?_)
    · replace hf := xi_pos hf qc10
      refine XS.go (s_iloadn rfl rfl rfl) ?_
      refine XS.go (s_bipush (v := 47) rfl rfl) ?_
      refine r_icmp_ne (tgt := 67) rfl rfl (fun qc11 => ?_) (fun qc11 => ?_)
      · replace hf := xi_pos hf qc11
        exact XR.forget (L2 := [some (.ref 7), some (.ref x1), some (.int x2), some (.int r7.1)]) ⟨rfl, ⟨rfl, ⟨rfl, ⟨rfl, trivial⟩⟩⟩⟩ (kb_x_skipBlanks_67 hK2 L9 hf)
      · replace hf := xi_neg hf qc11
        refine XS.go (s_aloadn rfl rfl rfl) ?_
        refine XS.go (s_aloadn rfl rfl rfl) ?_
        refine XS.go (s_getie rfl xf6_29 (LY.lt L9 (by decide)) (LY.k7 L9) (by decide) rfl rfl) ?_
        refine XS.go (s_iconst (v := 1) rfl rfl) ?_
        refine XS.go (s_iadd rfl) ?_
        replace hf := xi_none hf
        obtain ⟨qk12, hf⟩ := hf
        replace hf := xb_some hf
        obtain ⟨r13, e14, hf⟩ := hf
        refine r_callv rfl xvX1_octetOrNone xm6_40 (kf_b_octetOrNone (d := d) L9 e14) qk12.1 qk12.2 (by decide) rfl rfl (dl (by decide)) (by decide) (Nat.le_of_ble_eq_true rfl) ?_
        rintro _ _ ⟨⟨rfl, rfl⟩, L15⟩
        refine XS.go (s_bipush (v := 47) rfl rfl) ?_
        refine r_icmp_ne (tgt := 67) rfl rfl (fun qc16 => ?_) (fun qc16 => ?_)
        · replace hf := xi_pos hf qc16
          exact XR.forget (L2 := [some (.ref 7), some (.ref x1), some (.int x2), some (.int r7.1)]) ⟨rfl, ⟨rfl, ⟨rfl, ⟨rfl, trivial⟩⟩⟩⟩ (kb_x_skipBlanks_67 hK2 L15 hf)
        · replace hf := xi_neg hf qc16
          refine XS.go (s_iconst (v := 1) rfl rfl) ?_
          refine XS.go (XS.lcl (L3 := [some (.ref 7), some (.ref x1), some (.int 1), some (.int r7.1)]) (s_istoren rfl rfl (Nat.le_of_ble_eq_true rfl)) rfl) ?_
          refine XS.go (s_goto (tgt := 75) rfl rfl) ?_
          exact XR.forget (L2 := [some (.ref 7), some (.ref x1), some (.int 1), none]) ⟨rfl, ⟨rfl, ⟨rfl, trivial⟩⟩⟩ (kb_x_skipBlanks_75 hK2 L15 hf)
    · replace hf := xi_neg hf qc10
      refine XS.go (s_iloadn rfl rfl rfl) ?_
      refine XS.go (s_bipush (v := 10) rfl rfl) ?_
      refine r_icmp_eq (tgt := 36) rfl rfl (fun qc17 => ?_) (fun qc17 => ?_)
      · replace hf := xi_pos hf qc17
        refine XS.go (s_iconst (v := 0) rfl rfl) ?_
        exact XR.forget (L2 := [some (.ref 7), some (.ref x1), none, none]) ⟨rfl, ⟨rfl, trivial⟩⟩ (kb_x_skipBlanks_37 hK2 L9 hf)
      · replace hf := xi_neg hf qc17
        refine XS.go (s_iconst (v := 1) rfl rfl) ?_
        refine XS.go (s_goto (tgt := 37) rfl rfl) ?_
        exact XR.forget (L2 := [some (.ref 7), some (.ref x1), none, none]) ⟨rfl, ⟨rfl, trivial⟩⟩ (kb_x_skipBlanks_37 hK2 L9 hf)
def b_x_skipBlanks_2 : Nat → Nat → Int32 → XH → Option (Unit × XH)
  | 0, _, _, _ => none
  | n + 1, x1, x2, h => s_x_skipBlanks_2 (b_x_skipBlanks_2 n) x1 x2 h
theorem kb_x_skipBlanks_2 {l : Launch} {G : XG} {d : Nat} {n : Nat} {x1 : Nat} {x2 : Int32} {h : XH} {r : Unit × XH} (L0 : LY h) (hf : b_x_skipBlanks_2 n x1 x2 h = some r) : XR l G xEX6_skipBlanks (d + 2) (2, [some (.ref 7), some (.ref x1), some (.int x2), none], [], h) (fun C => ∃ v, xRet xEX6_skipBlanks C v ∧ (C.2.2.2 = r.2 ∧ v = none) ∧ LY r.2) := by
  induction n generalizing x1 x2 h with
  | zero => cases hf
  | succ n ih => exact ks_x_skipBlanks_2 (fun x1 x2 h L0 hf => ih (h := h) (x1 := x1) (x2 := x2) L0 hf) L0 hf
def f_x_skipBlanks (a0 : Nat) (h : XH) : Option (Unit × XH) := (b_x_skipBlanks_2 100000 a0 0 h)
set_option maxRecDepth 20000 in
theorem kf_x_skipBlanks {l : Launch} {G : XG} {d : Nat} {a0 : Nat} {h : XH} {r : Unit × XH} (L0 : LY h) (hf : f_x_skipBlanks a0 h = some r) : XC l G xEX6_skipBlanks (d + 2) [.ref 7, .ref a0] h (fun v h2 => (h2 = r.2 ∧ v = none) ∧ LY r.2) := by
  refine XC.virt xvX6_skipBlanks (Nat.le_of_ble_eq_true rfl) ?_
  unfold f_x_skipBlanks at hf
  refine XR.norm (L3 := [some (.ref 7), some (.ref a0), none, none]) rfl ?_
  refine XS.go (s_iconst (v := 0) rfl rfl) ?_
  refine XS.go (XS.lcl (L3 := [some (.ref 7), some (.ref a0), some (.int 0), none]) (s_istoren rfl rfl (Nat.le_of_ble_eq_true rfl)) rfl) ?_
  exact XR.forget (L2 := [some (.ref 7), some (.ref a0), some (.int 0), none]) ⟨rfl, ⟨rfl, ⟨rfl, trivial⟩⟩⟩ (kb_x_skipBlanks_2 L0 hf)
def b_x_takeWhole_156 (y1 : Int32) (y2 : Int32) (y3 : Int64) (h : XH) : Option (Int32 × XH) := (Option.bind (f_x_keep y1 y2 y3 (0 : Int64) h) fun r1 => (some (r1.1, r1.2)))
set_option maxRecDepth 20000 in
theorem kb_x_takeWhole_156 {l : Launch} {G : XG} {d : Nat} {y1 : Int32} {y2 : Int32} {y3 : Int64} {h : XH} {r : Int32 × XH} (L0 : LY h) (hf : b_x_takeWhole_156 y1 y2 y3 h = some r) : XR l G xEX6_takeWhole (d + 1) (156, [none, none, none, none, none, none, none, none, none], [(.long y3), (.int y2), (.int y1), (.ref 7)], h) (fun C => ∃ v, xRet xEX6_takeWhole C v ∧ (C.2.2.2 = r.2 ∧ v = some (.int r.1)) ∧ LY r.2) := by
  unfold b_x_takeWhole_156 at hf
  refine XS.go (s_lconst (v := 0) rfl rfl) ?_
  replace hf := xb_some hf
  obtain ⟨r1, e2, hf⟩ := hf
  refine r_callv rfl xvX6_keep xm6_46 (kf_x_keep (d := d) L0 e2) (LY.lt L0 (by decide)) (LY.k7 L0) (by decide) rfl rfl (dl0 (by decide)) (by decide) (Nat.le_of_ble_eq_true rfl) ?_
  rintro _ _ ⟨⟨rfl, rfl⟩, L3⟩
  cases hf
  exact XR.reti rfl rfl (fun hret => ⟨_, hret, ⟨rfl, rfl⟩, L3⟩)
def b_x_takeWhole_143 (x2 : Int32) (x3 : Int32) (x5 : Int64) (y1 : Int32) (h : XH) : Option (Int32 × XH) := (if x3 = 0 then (b_x_takeWhole_156 y1 x2 x5 h) else (b_x_takeWhole_156 y1 x2 (-x5) h))
set_option maxRecDepth 20000 in
theorem kb_x_takeWhole_143 {l : Launch} {G : XG} {d : Nat} {x2 : Int32} {x3 : Int32} {x5 : Int64} {y1 : Int32} {h : XH} {r : Int32 × XH} (L0 : LY h) (hf : b_x_takeWhole_143 x2 x3 x5 y1 h = some r) : XR l G xEX6_takeWhole (d + 1) (143, [none, none, some (.int x2), some (.int x3), none, some (.long x5), none, none, none], [(.int y1), (.ref 7)], h) (fun C => ∃ v, xRet xEX6_takeWhole C v ∧ (C.2.2.2 = r.2 ∧ v = some (.int r.1)) ∧ LY r.2) := by
  unfold b_x_takeWhole_143 at hf
  refine XS.go (s_iloadn rfl rfl rfl) ?_
  refine XS.go (s_iloadn rfl rfl rfl) ?_
  refine r_if_eq (tgt := 154) rfl rfl (fun qc4 => ?_) (fun qc4 => ?_)
  · replace hf := xi_pos hf qc4
    refine XS.go (s_lload rfl rfl) ?_
    exact XR.forget (L2 := [none, none, none, none, none, none, none, none, none]) trivial (kb_x_takeWhole_156 L0 hf)
  · replace hf := xi_neg hf qc4
    refine XS.go (s_lload rfl rfl) ?_
    refine XS.go (s_lneg rfl) ?_
    refine XS.go (s_goto (tgt := 156) rfl rfl) ?_
    exact XR.forget (L2 := [none, none, none, none, none, none, none, none, none]) trivial (kb_x_takeWhole_156 L0 hf)
def b_x_takeWhole_130 (x2 : Int32) (x3 : Int32) (x5 : Int64) (y0 : Int32) (h : XH) : Option (Int32 × XH) := (if y0 = 0 then (b_x_takeWhole_143 x2 x3 x5 1 h) else (b_x_takeWhole_143 x2 x3 x5 3 h))
set_option maxRecDepth 20000 in
theorem kb_x_takeWhole_130 {l : Launch} {G : XG} {d : Nat} {x2 : Int32} {x3 : Int32} {x5 : Int64} {y0 : Int32} {h : XH} {r : Int32 × XH} (L0 : LY h) (hf : b_x_takeWhole_130 x2 x3 x5 y0 h = some r) : XR l G xEX6_takeWhole (d + 1) (130, [some (.ref 7), none, some (.int x2), some (.int x3), none, some (.long x5), none, none, none], [(.int y0)], h) (fun C => ∃ v, xRet xEX6_takeWhole C v ∧ (C.2.2.2 = r.2 ∧ v = some (.int r.1)) ∧ LY r.2) := by
  unfold b_x_takeWhole_130 at hf
  refine XS.go (XS.lcl (L3 := [some (.ref 7), none, some (.int x2), some (.int x3), none, some (.long x5), none, none, some (.int y0)]) (s_istore rfl (Nat.le_of_ble_eq_true rfl)) rfl) ?_
  refine XS.go (s_aloadn rfl rfl rfl) ?_
  refine XS.go (s_iload rfl rfl) ?_
  refine r_if_eq (tgt := 142) rfl rfl (fun qc5 => ?_) (fun qc5 => ?_)
  · replace hf := xi_pos hf qc5
    refine XS.go (s_iconst (v := 1) rfl rfl) ?_
    exact XR.forget (L2 := [none, none, some (.int x2), some (.int x3), none, some (.long x5), none, none, none]) ⟨rfl, ⟨rfl, ⟨rfl, trivial⟩⟩⟩ (kb_x_takeWhole_143 L0 hf)
  · replace hf := xi_neg hf qc5
    refine XS.go (s_iconst (v := 3) rfl rfl) ?_
    refine XS.go (s_goto (tgt := 143) rfl rfl) ?_
    exact XR.forget (L2 := [none, none, some (.int x2), some (.int x3), none, some (.long x5), none, none, none]) ⟨rfl, ⟨rfl, ⟨rfl, trivial⟩⟩⟩ (kb_x_takeWhole_143 L0 hf)
def b_x_takeWhole_129 (x2 : Int32) (x3 : Int32) (x5 : Int64) (h : XH) : Option (Int32 × XH) := (b_x_takeWhole_130 x2 x3 x5 0 h)
set_option maxRecDepth 20000 in
theorem kb_x_takeWhole_129 {l : Launch} {G : XG} {d : Nat} {x2 : Int32} {x3 : Int32} {x5 : Int64} {h : XH} {r : Int32 × XH} (L0 : LY h) (hf : b_x_takeWhole_129 x2 x3 x5 h = some r) : XR l G xEX6_takeWhole (d + 1) (129, [some (.ref 7), none, some (.int x2), some (.int x3), none, some (.long x5), none, none, none], [], h) (fun C => ∃ v, xRet xEX6_takeWhole C v ∧ (C.2.2.2 = r.2 ∧ v = some (.int r.1)) ∧ LY r.2) := by
  unfold b_x_takeWhole_129 at hf
  refine XS.go (s_iconst (v := 0) rfl rfl) ?_
  exact XR.forget (L2 := [some (.ref 7), none, some (.int x2), some (.int x3), none, some (.long x5), none, none, none]) ⟨rfl, ⟨rfl, ⟨rfl, ⟨rfl, trivial⟩⟩⟩⟩ (kb_x_takeWhole_130 L0 hf)
def b_x_takeWhole_103 (x2 : Int32) (x3 : Int32) (x4 : Int32) (x5 : Int64) (h : XH) : Option (Int32 × XH) := (if ((hi h 7 5) - x4) < 1 then (b_x_takeWhole_129 x2 x3 x5 h) else (if 18 < ((hi h 7 5) - x4) then (b_x_takeWhole_129 x2 x3 x5 h) else (b_x_takeWhole_130 x2 x3 x5 1 h)))
set_option maxRecDepth 20000 in
theorem kb_x_takeWhole_103 {l : Launch} {G : XG} {d : Nat} {x2 : Int32} {x3 : Int32} {x4 : Int32} {x5 : Int64} {h : XH} {r : Int32 × XH} (L0 : LY h) (hf : b_x_takeWhole_103 x2 x3 x4 x5 h = some r) : XR l G xEX6_takeWhole (d + 1) (103, [some (.ref 7), none, some (.int x2), some (.int x3), some (.int x4), some (.long x5), none, none, none], [], h) (fun C => ∃ v, xRet xEX6_takeWhole C v ∧ (C.2.2.2 = r.2 ∧ v = some (.int r.1)) ∧ LY r.2) := by
  unfold b_x_takeWhole_103 at hf
  refine XS.go (s_aloadn rfl rfl rfl) ?_
  refine XS.go (s_getie rfl xf6_29 (LY.lt L0 (by decide)) (LY.k7 L0) (by decide) rfl rfl) ?_
  refine XS.go (s_iload rfl rfl) ?_
  refine XS.go (s_isub rfl) ?_
  refine XS.go (XS.lcl (L3 := [some (.ref 7), none, some (.int x2), some (.int x3), some (.int x4), some (.long x5), none, some (.int ((hi h 7 5) - x4)), none]) (s_istore rfl (Nat.le_of_ble_eq_true rfl)) rfl) ?_
  refine XS.go (s_iload rfl rfl) ?_
  refine XS.go (s_iconst (v := 1) rfl rfl) ?_
  refine r_icmp_lt (tgt := 129) rfl rfl (fun qc6 => ?_) (fun qc6 => ?_)
  · replace hf := xi_pos hf qc6
    exact XR.forget (L2 := [some (.ref 7), none, some (.int x2), some (.int x3), none, some (.long x5), none, none, none]) ⟨rfl, ⟨rfl, ⟨rfl, ⟨rfl, trivial⟩⟩⟩⟩ (kb_x_takeWhole_129 L0 hf)
  · replace hf := xi_neg hf qc6
    refine XS.go (s_iload rfl rfl) ?_
    refine XS.go (s_bipush (v := 18) rfl rfl) ?_
    refine r_icmp_gt (tgt := 129) rfl rfl (fun qc7 => ?_) (fun qc7 => ?_)
    · replace hf := xi_pos hf qc7
      exact XR.forget (L2 := [some (.ref 7), none, some (.int x2), some (.int x3), none, some (.long x5), none, none, none]) ⟨rfl, ⟨rfl, ⟨rfl, ⟨rfl, trivial⟩⟩⟩⟩ (kb_x_takeWhole_129 L0 hf)
    · replace hf := xi_neg hf qc7
      refine XS.go (s_iconst (v := 1) rfl rfl) ?_
      refine XS.go (s_goto (tgt := 130) rfl rfl) ?_
      exact XR.forget (L2 := [some (.ref 7), none, some (.int x2), some (.int x3), none, some (.long x5), none, none, none]) ⟨rfl, ⟨rfl, ⟨rfl, ⟨rfl, trivial⟩⟩⟩⟩ (kb_x_takeWhole_130 L0 hf)
def s_x_takeWhole_44 (K44 : Nat → Int32 → Int32 → Int32 → Int64 → XH → Option (Int32 × XH)) (x1 : Nat) (x2 : Int32) (x3 : Int32) (x4 : Int32) (x5 : Int64) (h : XH) : Option (Int32 × XH) := (if x1 < hz h ∧ hk h x1 = 1 then (if (hi h x1 1) ≤ (hi h 7 5) then (b_x_takeWhole_103 x2 x3 x4 x5 h) else (Option.bind (f_b_octet x1 (hi h 7 5) h) fun r10 => (Option.bind (f_x_isDigit r10.1 r10.2) fun r13 => (if r13.1 = 0 then (b_x_takeWhole_103 x2 x3 x4 x5 r13.2) else (if x1 < hz r13.2 ∧ hk r13.2 x1 = 1 then (Option.bind (f_b_octet x1 (hi r13.2 7 5) r13.2) fun r18 => (K44 x1 x2 x3 x4 ((x5 * (10 : Int64)) + (Int32.toInt64 (r18.1 - 48))) (hsi r18.2 7 5 ((hi r18.2 7 5) + 1)))) else none))))) else none)
set_option maxRecDepth 20000 in
theorem ks_x_takeWhole_44 {l : Launch} {G : XG} {d : Nat} {K44 : Nat → Int32 → Int32 → Int32 → Int64 → XH → Option (Int32 × XH)} {x1 : Nat} {x2 : Int32} {x3 : Int32} {x4 : Int32} {x5 : Int64} {h : XH} {r : Int32 × XH} (hK44 : ∀ (x1 : Nat) (x2 : Int32) (x3 : Int32) (x4 : Int32) (x5 : Int64) (h : XH), LY h → K44 x1 x2 x3 x4 x5 h = some r → XR l G xEX6_takeWhole (d + 1) (44, [some (.ref 7), some (.ref x1), some (.int x2), some (.int x3), some (.int x4), some (.long x5), none, none, none], [], h) (fun C => ∃ v, xRet xEX6_takeWhole C v ∧ (C.2.2.2 = r.2 ∧ v = some (.int r.1)) ∧ LY r.2)) (L0 : LY h) (hf : s_x_takeWhole_44 K44 x1 x2 x3 x4 x5 h = some r) : XR l G xEX6_takeWhole (d + 1) (44, [some (.ref 7), some (.ref x1), some (.int x2), some (.int x3), some (.int x4), some (.long x5), none, none, none], [], h) (fun C => ∃ v, xRet xEX6_takeWhole C v ∧ (C.2.2.2 = r.2 ∧ v = some (.int r.1)) ∧ LY r.2) := by
  unfold s_x_takeWhole_44 at hf
  refine XS.go (s_aloadn rfl rfl rfl) ?_
  refine XS.go (s_getie rfl xf6_29 (LY.lt L0 (by decide)) (LY.k7 L0) (by decide) rfl rfl) ?_
  refine XS.go (s_aloadn rfl rfl rfl) ?_
  replace hf := xi_none hf
  obtain ⟨qk8, hf⟩ := hf
  refine XS.go (s_getie rfl xf6_70 qk8.1 qk8.2 (by decide) rfl rfl) ?_
  refine r_icmp_ge (tgt := 103) rfl rfl (fun qc9 => ?_) (fun qc9 => ?_)
  · replace hf := xi_pos hf qc9
    exact XR.forget (L2 := [some (.ref 7), none, some (.int x2), some (.int x3), some (.int x4), some (.long x5), none, none, none]) ⟨rfl, ⟨rfl, ⟨rfl, ⟨rfl, ⟨rfl, trivial⟩⟩⟩⟩⟩ (kb_x_takeWhole_103 L0 hf)
  · replace hf := xi_neg hf qc9
    refine XS.go (s_aloadn rfl rfl rfl) ?_
    refine XS.go (s_aloadn rfl rfl rfl) ?_
    refine XS.go (s_getie rfl xf6_29 (LY.lt L0 (by decide)) (LY.k7 L0) (by decide) rfl rfl) ?_
    replace hf := xb_some hf
    obtain ⟨r10, e11, hf⟩ := hf
    refine r_callv rfl xvX1_octet xm6_73 (kf_b_octet (d := d) L0 e11) qk8.1 qk8.2 (by decide) rfl rfl (dl0 (by decide)) (by decide) (Nat.le_of_ble_eq_true rfl) ?_
    rintro _ _ ⟨⟨rfl, rfl⟩, L12⟩
    replace hf := xb_some hf
    obtain ⟨r13, e14, hf⟩ := hf
    refine r_calls rfl xsX6_isDigit xm6_57 (kf_x_isDigit (d := d) L12 e14) rfl rfl (dl0 (by decide)) (by decide) (Nat.le_of_ble_eq_true rfl) ?_
    rintro _ _ ⟨⟨rfl, rfl⟩, L15⟩
    refine r_if_eq (tgt := 103) rfl rfl (fun qc16 => ?_) (fun qc16 => ?_)
    · replace hf := xi_pos hf qc16
      exact XR.forget (L2 := [some (.ref 7), none, some (.int x2), some (.int x3), some (.int x4), some (.long x5), none, none, none]) ⟨rfl, ⟨rfl, ⟨rfl, ⟨rfl, ⟨rfl, trivial⟩⟩⟩⟩⟩ (kb_x_takeWhole_103 L15 hf)
    · replace hf := xi_neg hf qc16
      refine XS.go (s_lload rfl rfl) ?_
      refine XS.go (s_ldc2 rfl (lg_4 175 rfl rfl)) ?_
      refine XS.go (s_lmul rfl) ?_
      refine XS.go (s_aloadn rfl rfl rfl) ?_
      refine XS.go (s_aloadn rfl rfl rfl) ?_
      refine XS.go (s_getie rfl xf6_29 (LY.lt L15 (by decide)) (LY.k7 L15) (by decide) rfl rfl) ?_
      replace hf := xi_none hf
      obtain ⟨qk17, hf⟩ := hf
      replace hf := xb_some hf
      obtain ⟨r18, e19, hf⟩ := hf
      refine r_callv rfl xvX1_octet xm6_73 (kf_b_octet (d := d) L15 e19) qk17.1 qk17.2 (by decide) rfl rfl (dl0 (by decide)) (by decide) (Nat.le_of_ble_eq_true rfl) ?_
      rintro _ _ ⟨⟨rfl, rfl⟩, L20⟩
      refine XS.go (s_bipush (v := 48) rfl rfl) ?_
      refine XS.go (s_isub rfl) ?_
      refine XS.go (s_i2l rfl) ?_
      refine XS.go (s_ladd rfl) ?_
      refine XS.go (XS.lcl (L3 := [some (.ref 7), some (.ref x1), some (.int x2), some (.int x3), some (.int x4), some (.long ((x5 * (10 : Int64)) + (Int32.toInt64 (r18.1 - 48)))), none, none, none]) (s_lstore rfl (Nat.le_of_ble_eq_true rfl)) rfl) ?_
      refine XS.go (s_aloadn rfl rfl rfl) ?_
      refine XS.go (s_dup rfl rfl) ?_
      refine XS.go (s_getie rfl xf6_29 (LY.lt L20 (by decide)) (LY.k7 L20) (by decide) rfl rfl) ?_
      refine XS.go (s_iconst (v := 1) rfl rfl) ?_
      refine XS.go (s_iadd rfl) ?_
      refine XS.go (s_puti rfl xf6_29 (LY.lt L20 (by decide)) (LY.k7 L20) (by decide) rfl (Or.inl rfl)) ?_
      refine XS.go (s_goto (tgt := 44) rfl rfl) ?_
      exact XR.forget (L2 := [some (.ref 7), some (.ref x1), some (.int x2), some (.int x3), some (.int x4), some (.long ((x5 * (10 : Int64)) + (Int32.toInt64 (r18.1 - 48)))), none, none, none]) ⟨rfl, ⟨rfl, ⟨rfl, ⟨rfl, ⟨rfl, ⟨rfl, trivial⟩⟩⟩⟩⟩⟩ (hK44 x1 x2 x3 x4 ((x5 * (10 : Int64)) + (Int32.toInt64 (r18.1 - 48))) _ (by simp only [LY_si, LY_sj]; exact L20) hf)
def b_x_takeWhole_44 : Nat → Nat → Int32 → Int32 → Int32 → Int64 → XH → Option (Int32 × XH)
  | 0, _, _, _, _, _, _ => none
  | n + 1, x1, x2, x3, x4, x5, h => s_x_takeWhole_44 (b_x_takeWhole_44 n) x1 x2 x3 x4 x5 h
theorem kb_x_takeWhole_44 {l : Launch} {G : XG} {d : Nat} {n : Nat} {x1 : Nat} {x2 : Int32} {x3 : Int32} {x4 : Int32} {x5 : Int64} {h : XH} {r : Int32 × XH} (L0 : LY h) (hf : b_x_takeWhole_44 n x1 x2 x3 x4 x5 h = some r) : XR l G xEX6_takeWhole (d + 1) (44, [some (.ref 7), some (.ref x1), some (.int x2), some (.int x3), some (.int x4), some (.long x5), none, none, none], [], h) (fun C => ∃ v, xRet xEX6_takeWhole C v ∧ (C.2.2.2 = r.2 ∧ v = some (.int r.1)) ∧ LY r.2) := by
  induction n generalizing x1 x2 x3 x4 x5 h with
  | zero => cases hf
  | succ n ih => exact ks_x_takeWhole_44 (fun x1 x2 x3 x4 x5 h L0 hf => ih (h := h) (x1 := x1) (x2 := x2) (x3 := x3) (x4 := x4) (x5 := x5) L0 hf) L0 hf
def b_x_takeWhole_35 (x1 : Nat) (x2 : Int32) (x3 : Int32) (h : XH) : Option (Int32 × XH) := (b_x_takeWhole_44 100000 x1 x2 x3 (hi h 7 5) (0 : Int64) h)
set_option maxRecDepth 20000 in
theorem kb_x_takeWhole_35 {l : Launch} {G : XG} {d : Nat} {x1 : Nat} {x2 : Int32} {x3 : Int32} {h : XH} {r : Int32 × XH} (L0 : LY h) (hf : b_x_takeWhole_35 x1 x2 x3 h = some r) : XR l G xEX6_takeWhole (d + 1) (35, [some (.ref 7), some (.ref x1), some (.int x2), some (.int x3), none, none, none, none, none], [], h) (fun C => ∃ v, xRet xEX6_takeWhole C v ∧ (C.2.2.2 = r.2 ∧ v = some (.int r.1)) ∧ LY r.2) := by
  unfold b_x_takeWhole_35 at hf
  refine XS.go (s_aloadn rfl rfl rfl) ?_
  refine XS.go (s_getie rfl xf6_29 (LY.lt L0 (by decide)) (LY.k7 L0) (by decide) rfl rfl) ?_
  refine XS.go (XS.lcl (L3 := [some (.ref 7), some (.ref x1), some (.int x2), some (.int x3), some (.int (hi h 7 5)), none, none, none, none]) (s_istore rfl (Nat.le_of_ble_eq_true rfl)) rfl) ?_
  refine XS.go (s_lconst (v := 0) rfl rfl) ?_
  refine XS.go (XS.lcl (L3 := [some (.ref 7), some (.ref x1), some (.int x2), some (.int x3), some (.int (hi h 7 5)), some (.long (0 : Int64)), none, none, none]) (s_lstore rfl (Nat.le_of_ble_eq_true rfl)) rfl) ?_
  exact XR.forget (L2 := [some (.ref 7), some (.ref x1), some (.int x2), some (.int x3), some (.int (hi h 7 5)), some (.long (0 : Int64)), none, none, none]) ⟨rfl, ⟨rfl, ⟨rfl, ⟨rfl, ⟨rfl, ⟨rfl, trivial⟩⟩⟩⟩⟩⟩ (kb_x_takeWhole_44 L0 hf)
def b_x_takeWhole_20 (x1 : Nat) (x2 : Int32) (y0 : Int32) (h : XH) : Option (Int32 × XH) := (if y0 = 0 then (b_x_takeWhole_35 x1 x2 y0 h) else (b_x_takeWhole_35 x1 x2 y0 (hsi h 7 5 ((hi h 7 5) + 1))))
set_option maxRecDepth 20000 in
theorem kb_x_takeWhole_20 {l : Launch} {G : XG} {d : Nat} {x1 : Nat} {x2 : Int32} {y0 : Int32} {h : XH} {r : Int32 × XH} (L0 : LY h) (hf : b_x_takeWhole_20 x1 x2 y0 h = some r) : XR l G xEX6_takeWhole (d + 1) (20, [some (.ref 7), some (.ref x1), some (.int x2), none, none, none, none, none, none], [(.int y0)], h) (fun C => ∃ v, xRet xEX6_takeWhole C v ∧ (C.2.2.2 = r.2 ∧ v = some (.int r.1)) ∧ LY r.2) := by
  unfold b_x_takeWhole_20 at hf
  refine XS.go (XS.lcl (L3 := [some (.ref 7), some (.ref x1), some (.int x2), some (.int y0), none, none, none, none, none]) (s_istoren rfl rfl (Nat.le_of_ble_eq_true rfl)) rfl) ?_
  refine XS.go (s_iloadn rfl rfl rfl) ?_
  refine r_if_eq (tgt := 35) rfl rfl (fun qc21 => ?_) (fun qc21 => ?_)
  · replace hf := xi_pos hf qc21
    exact XR.forget (L2 := [some (.ref 7), some (.ref x1), some (.int x2), some (.int y0), none, none, none, none, none]) ⟨rfl, ⟨rfl, ⟨rfl, ⟨rfl, trivial⟩⟩⟩⟩ (kb_x_takeWhole_35 L0 hf)
  · replace hf := xi_neg hf qc21
    refine XS.go (s_aloadn rfl rfl rfl) ?_
    refine XS.go (s_dup rfl rfl) ?_
    refine XS.go (s_getie rfl xf6_29 (LY.lt L0 (by decide)) (LY.k7 L0) (by decide) rfl rfl) ?_
    refine XS.go (s_iconst (v := 1) rfl rfl) ?_
    refine XS.go (s_iadd rfl) ?_
    refine XS.go (s_puti rfl xf6_29 (LY.lt L0 (by decide)) (LY.k7 L0) (by decide) rfl (Or.inl rfl)) ?_
    exact XR.forget (L2 := [some (.ref 7), some (.ref x1), some (.int x2), some (.int y0), none, none, none, none, none]) ⟨rfl, ⟨rfl, ⟨rfl, ⟨rfl, trivial⟩⟩⟩⟩ (kb_x_takeWhole_35 (by simp only [LY_si, LY_sj]; exact L0) hf)
def f_x_takeWhole (a0 : Nat) (h : XH) : Option (Int32 × XH) := (if a0 < hz h ∧ hk h a0 = 1 then (Option.bind (f_b_octet a0 (hi h 7 5) h) fun r23 => (if ¬ r23.1 = 45 then (b_x_takeWhole_20 a0 (hi h 7 5) 0 r23.2) else (b_x_takeWhole_20 a0 (hi h 7 5) 1 r23.2))) else none)
set_option maxRecDepth 20000 in
theorem kf_x_takeWhole {l : Launch} {G : XG} {d : Nat} {a0 : Nat} {h : XH} {r : Int32 × XH} (L0 : LY h) (hf : f_x_takeWhole a0 h = some r) : XC l G xEX6_takeWhole (d + 1) [.ref 7, .ref a0] h (fun v h2 => (h2 = r.2 ∧ v = some (.int r.1)) ∧ LY r.2) := by
  refine XC.virt xvX6_takeWhole (Nat.le_of_ble_eq_true rfl) ?_
  unfold f_x_takeWhole at hf
  refine XR.norm (L3 := [some (.ref 7), some (.ref a0), none, none, none, none, none, none, none]) rfl ?_
  refine XS.go (s_aloadn rfl rfl rfl) ?_
  refine XS.go (s_getie rfl xf6_29 (LY.lt L0 (by decide)) (LY.k7 L0) (by decide) rfl rfl) ?_
  refine XS.go (XS.lcl (L3 := [some (.ref 7), some (.ref a0), some (.int (hi h 7 5)), none, none, none, none, none, none]) (s_istoren rfl rfl (Nat.le_of_ble_eq_true rfl)) rfl) ?_
  refine XS.go (s_aloadn rfl rfl rfl) ?_
  refine XS.go (s_iloadn rfl rfl rfl) ?_
  replace hf := xi_none hf
  obtain ⟨qk22, hf⟩ := hf
  replace hf := xb_some hf
  obtain ⟨r23, e24, hf⟩ := hf
  refine r_callv rfl xvX1_octet xm6_73 (kf_b_octet (d := d) L0 e24) qk22.1 qk22.2 (by decide) rfl rfl (dl0 (by decide)) (by decide) (Nat.le_of_ble_eq_true rfl) ?_
  rintro _ _ ⟨⟨rfl, rfl⟩, L25⟩
  refine XS.go (s_bipush (v := 45) rfl rfl) ?_
  refine r_icmp_ne (tgt := 19) rfl rfl (fun qc26 => ?_) (fun qc26 => ?_)
  · replace hf := xi_pos hf qc26
    refine XS.go (s_iconst (v := 0) rfl rfl) ?_
    exact XR.forget (L2 := [some (.ref 7), some (.ref a0), some (.int (hi h 7 5)), none, none, none, none, none, none]) ⟨rfl, ⟨rfl, ⟨rfl, trivial⟩⟩⟩ (kb_x_takeWhole_20 L25 hf)
  · replace hf := xi_neg hf qc26
    refine XS.go (s_iconst (v := 1) rfl rfl) ?_
    refine XS.go (s_goto (tgt := 20) rfl rfl) ?_
    exact XR.forget (L2 := [some (.ref 7), some (.ref a0), some (.int (hi h 7 5)), none, none, none, none, none, none]) ⟨rfl, ⟨rfl, ⟨rfl, trivial⟩⟩⟩ (kb_x_takeWhole_20 L25 hf)
def s_x_isWord_22 (K22 : Nat → Int32 → Nat → Int32 → Int32 → XH → Option (Int32 × XH)) (x1 : Nat) (x2 : Int32) (x3 : Nat) (x4 : Int32) (x5 : Int32) (h : XH) : Option (Int32 × XH) := (if x4 ≤ x5 then (some (1, h)) else (if 10000010 ≤ x3 ∧ x3 < 10000046 then (if 0 ≤ x5 ∧ x5 < nI (xlen x3) then (if x1 < hz h ∧ hk h x1 = 1 then (Option.bind (f_b_octet x1 (x2 + x5) h) fun r5 => (if (xch x3 x5) = r5.1 then (K22 x1 x2 x3 x4 (x5 + 1) r5.2) else (some (0, r5.2)))) else none) else none) else none))
set_option maxRecDepth 20000 in
theorem ks_x_isWord_22 {l : Launch} {G : XG} {d : Nat} {K22 : Nat → Int32 → Nat → Int32 → Int32 → XH → Option (Int32 × XH)} {x1 : Nat} {x2 : Int32} {x3 : Nat} {x4 : Int32} {x5 : Int32} {h : XH} {r : Int32 × XH} (hK22 : ∀ (x1 : Nat) (x2 : Int32) (x3 : Nat) (x4 : Int32) (x5 : Int32) (h : XH), LY h → K22 x1 x2 x3 x4 x5 h = some r → XR l G xEX6_isWord (d + 4) (22, [none, some (.ref x1), some (.int x2), some (.ref x3), some (.int x4), some (.int x5)], [], h) (fun C => ∃ v, xRet xEX6_isWord C v ∧ (C.2.2.2 = r.2 ∧ v = some (.int r.1)) ∧ LY r.2)) (L0 : LY h) (hf : s_x_isWord_22 K22 x1 x2 x3 x4 x5 h = some r) : XR l G xEX6_isWord (d + 4) (22, [none, some (.ref x1), some (.int x2), some (.ref x3), some (.int x4), some (.int x5)], [], h) (fun C => ∃ v, xRet xEX6_isWord C v ∧ (C.2.2.2 = r.2 ∧ v = some (.int r.1)) ∧ LY r.2) := by
  unfold s_x_isWord_22 at hf
  refine XS.go (s_iload rfl rfl) ?_
  refine XS.go (s_iload rfl rfl) ?_
  refine r_icmp_ge (tgt := 54) rfl rfl (fun qc1 => ?_) (fun qc1 => ?_)
  · replace hf := xi_pos hf qc1
    refine XS.go (s_iconst (v := 1) rfl rfl) ?_
    cases hf
    exact XR.retz rfl rfl (by decide) (fun hret => ⟨_, hret, ⟨rfl, rfl⟩, L0⟩)
  · replace hf := xi_neg hf qc1
    refine XS.go (s_aloadn rfl rfl rfl) ?_
    refine XS.go (s_iload rfl rfl) ?_
    replace hf := xi_none hf
    obtain ⟨qk2, hf⟩ := hf
    replace hf := xi_none hf
    obtain ⟨qk3, hf⟩ := hf
    refine r_callvA rfl xvJ0_charAt rfl xj6_100 (kS_charAt (d := d) qk2 (Int32.not_lt.mpr qk3.1) qk3.2) qk2 rfl rfl (dl (by decide)) (by decide) (Nat.le_of_ble_eq_true rfl) ?_
    rintro _ _ ⟨rfl, rfl⟩
    refine XS.go (s_aloadn rfl rfl rfl) ?_
    refine XS.go (s_iloadn rfl rfl rfl) ?_
    refine XS.go (s_iload rfl rfl) ?_
    refine XS.go (s_iadd rfl) ?_
    replace hf := xi_none hf
    obtain ⟨qk4, hf⟩ := hf
    replace hf := xb_some hf
    obtain ⟨r5, e6, hf⟩ := hf
    refine r_callv rfl xvX1_octet xm6_73 (kf_b_octet (d := d) L0 e6) qk4.1 qk4.2 (by decide) rfl rfl (dl0 (by decide)) (by decide) (Nat.le_of_ble_eq_true rfl) ?_
    rintro _ _ ⟨⟨rfl, rfl⟩, L7⟩
    refine r_icmp_eq (tgt := 48) rfl rfl (fun qc8 => ?_) (fun qc8 => ?_)
    · replace hf := xi_pos hf qc8
      refine XS.go (XS.lcl (L3 := [none, some (.ref x1), some (.int x2), some (.ref x3), some (.int x4), some (.int (x5 + 1))]) (s_inc rfl rfl (Nat.le_of_ble_eq_true rfl)) rfl) ?_
      refine XS.go (s_goto (tgt := 22) rfl rfl) ?_
      exact XR.forget (L2 := [none, some (.ref x1), some (.int x2), some (.ref x3), some (.int x4), some (.int (x5 + 1))]) ⟨rfl, ⟨rfl, ⟨rfl, ⟨rfl, ⟨rfl, trivial⟩⟩⟩⟩⟩ (hK22 x1 x2 x3 x4 (x5 + 1) _ L7 hf)
    · replace hf := xi_neg hf qc8
      refine XS.go (s_iconst (v := 0) rfl rfl) ?_
      cases hf
      exact XR.retz rfl rfl (by decide) (fun hret => ⟨_, hret, ⟨rfl, rfl⟩, L7⟩)
def b_x_isWord_22 : Nat → Nat → Int32 → Nat → Int32 → Int32 → XH → Option (Int32 × XH)
  | 0, _, _, _, _, _, _ => none
  | n + 1, x1, x2, x3, x4, x5, h => s_x_isWord_22 (b_x_isWord_22 n) x1 x2 x3 x4 x5 h
theorem kb_x_isWord_22 {l : Launch} {G : XG} {d : Nat} {n : Nat} {x1 : Nat} {x2 : Int32} {x3 : Nat} {x4 : Int32} {x5 : Int32} {h : XH} {r : Int32 × XH} (L0 : LY h) (hf : b_x_isWord_22 n x1 x2 x3 x4 x5 h = some r) : XR l G xEX6_isWord (d + 4) (22, [none, some (.ref x1), some (.int x2), some (.ref x3), some (.int x4), some (.int x5)], [], h) (fun C => ∃ v, xRet xEX6_isWord C v ∧ (C.2.2.2 = r.2 ∧ v = some (.int r.1)) ∧ LY r.2) := by
  induction n generalizing x1 x2 x3 x4 x5 h with
  | zero => cases hf
  | succ n ih => exact ks_x_isWord_22 (fun x1 x2 x3 x4 x5 h L0 hf => ih (h := h) (x1 := x1) (x2 := x2) (x3 := x3) (x4 := x4) (x5 := x5) L0 hf) L0 hf
def f_x_isWord (a0 : Nat) (a1 : Int32) (a2 : Nat) (h : XH) : Option (Int32 × XH) := (if 10000010 ≤ a2 ∧ a2 < 10000046 then (if (nI (xlen a2)) = ((hi h 7 5) - a1) then (b_x_isWord_22 100000 a0 a1 a2 (nI (xlen a2)) 0 h) else (some (0, h))) else none)
set_option maxRecDepth 20000 in
theorem kf_x_isWord {l : Launch} {G : XG} {d : Nat} {a0 : Nat} {a1 : Int32} {a2 : Nat} {h : XH} {r : Int32 × XH} (L0 : LY h) (hf : f_x_isWord a0 a1 a2 h = some r) : XC l G xEX6_isWord (d + 4) [.ref 7, .ref a0, .int a1, .ref a2] h (fun v h2 => (h2 = r.2 ∧ v = some (.int r.1)) ∧ LY r.2) := by
  refine XC.virt xvX6_isWord (Nat.le_of_ble_eq_true rfl) ?_
  unfold f_x_isWord at hf
  refine XR.norm (L3 := [some (.ref 7), some (.ref a0), some (.int a1), some (.ref a2), none, none]) rfl ?_
  refine XS.go (s_aloadn rfl rfl rfl) ?_
  replace hf := xi_none hf
  obtain ⟨qk9, hf⟩ := hf
  refine r_callvA rfl xvJ0_length rfl xj6_97 (kS_length (d := d) qk9) qk9 rfl rfl (dl (by decide)) (by decide) (Nat.le_of_ble_eq_true rfl) ?_
  rintro _ _ ⟨rfl, rfl⟩
  refine XS.go (XS.lcl (L3 := [some (.ref 7), some (.ref a0), some (.int a1), some (.ref a2), some (.int (nI (xlen a2))), none]) (s_istore rfl (Nat.le_of_ble_eq_true rfl)) rfl) ?_
  refine XS.go (s_iload rfl rfl) ?_
  refine XS.go (s_aloadn rfl rfl rfl) ?_
  refine XS.go (s_getie rfl xf6_29 (LY.lt L0 (by decide)) (LY.k7 L0) (by decide) rfl rfl) ?_
  refine XS.go (s_iloadn rfl rfl rfl) ?_
  refine XS.go (s_isub rfl) ?_
  refine r_icmp_eq (tgt := 19) rfl rfl (fun qc10 => ?_) (fun qc10 => ?_)
  · replace hf := xi_pos hf qc10
    refine XS.go (s_iconst (v := 0) rfl rfl) ?_
    refine XS.go (XS.lcl (L3 := [some (.ref 7), some (.ref a0), some (.int a1), some (.ref a2), some (.int (nI (xlen a2))), some (.int 0)]) (s_istore rfl (Nat.le_of_ble_eq_true rfl)) rfl) ?_
    exact XR.forget (L2 := [none, some (.ref a0), some (.int a1), some (.ref a2), some (.int (nI (xlen a2))), some (.int 0)]) ⟨rfl, ⟨rfl, ⟨rfl, ⟨rfl, ⟨rfl, trivial⟩⟩⟩⟩⟩ (kb_x_isWord_22 L0 hf)
  · replace hf := xi_neg hf qc10
    refine XS.go (s_iconst (v := 0) rfl rfl) ?_
    cases hf
    exact XR.retz rfl rfl (by decide) (fun hret => ⟨_, hret, ⟨rfl, rfl⟩, L0⟩)
def b_x_isWordSign_14 (h : XH) : Option (Int32 × XH) := (some (1, h))
set_option maxRecDepth 20000 in
theorem kb_x_isWordSign_14 {l : Launch} {G : XG} {d : Nat} {h : XH} {r : Int32 × XH} (L0 : LY h) (hf : b_x_isWordSign_14 h = some r) : XR l G xEX6_isWordSign (d + 1) (14, [none], [], h) (fun C => ∃ v, xRet xEX6_isWordSign C v ∧ (C.2.2.2 = r.2 ∧ v = some (.int r.1)) ∧ LY r.2) := by
  unfold b_x_isWordSign_14 at hf
  refine XS.go (s_iconst (v := 1) rfl rfl) ?_
  refine XS.go (s_goto (tgt := 19) rfl rfl) ?_
  cases hf
  exact XR.retz rfl rfl (by decide) (fun hret => ⟨_, hret, ⟨rfl, rfl⟩, L0⟩)
def f_x_isWordSign (a0 : Int32) (h : XH) : Option (Int32 × XH) := (Option.bind (f_x_isLetter a0 h) fun r1 => (if ¬ r1.1 = 0 then (b_x_isWordSign_14 r1.2) else (Option.bind (f_x_isDigit a0 r1.2) fun r5 => (if r5.1 = 0 then (some (0, r5.2)) else (b_x_isWordSign_14 r5.2)))))
set_option maxRecDepth 20000 in
theorem kf_x_isWordSign {l : Launch} {G : XG} {d : Nat} {a0 : Int32} {h : XH} {r : Int32 × XH} (L0 : LY h) (hf : f_x_isWordSign a0 h = some r) : XC l G xEX6_isWordSign (d + 1) [.int a0] h (fun v h2 => (h2 = r.2 ∧ v = some (.int r.1)) ∧ LY r.2) := by
  refine XC.stat xsX6_isWordSign (Nat.le_of_ble_eq_true rfl) ?_
  unfold f_x_isWordSign at hf
  refine XR.norm (L3 := [some (.int a0)]) rfl ?_
  refine XS.go (s_iloadn rfl rfl rfl) ?_
  replace hf := xb_some hf
  obtain ⟨r1, e2, hf⟩ := hf
  refine r_calls rfl xsX6_isLetter xm6_50 (kf_x_isLetter (d := d) L0 e2) rfl rfl (dl0 (by decide)) (by decide) (Nat.le_of_ble_eq_true rfl) ?_
  rintro _ _ ⟨⟨rfl, rfl⟩, L3⟩
  refine r_if_ne (tgt := 14) rfl rfl (fun qc4 => ?_) (fun qc4 => ?_)
  · replace hf := xi_pos hf qc4
    exact XR.forget (L2 := [none]) trivial (kb_x_isWordSign_14 L3 hf)
  · replace hf := xi_neg hf qc4
    refine XS.go (s_iloadn rfl rfl rfl) ?_
    replace hf := xb_some hf
    obtain ⟨r5, e6, hf⟩ := hf
    refine r_calls rfl xsX6_isDigit xm6_57 (kf_x_isDigit (d := d) L3 e6) rfl rfl (dl0 (by decide)) (by decide) (Nat.le_of_ble_eq_true rfl) ?_
    rintro _ _ ⟨⟨rfl, rfl⟩, L7⟩
    refine r_if_eq (tgt := 18) rfl rfl (fun qc8 => ?_) (fun qc8 => ?_)
    · replace hf := xi_pos hf qc8
      refine XS.go (s_iconst (v := 0) rfl rfl) ?_
      cases hf
      exact XR.retz rfl rfl (by decide) (fun hret => ⟨_, hret, ⟨rfl, rfl⟩, L7⟩)
    · replace hf := xi_neg hf qc8
      exact XR.forget (L2 := [none]) trivial (kb_x_isWordSign_14 L7 hf)
def f_x_keyword (a0 : Int32) (h : XH) : Option (Option Nat × XH) := (if a0 = 5 then (some (some 10000021, h)) else (if a0 = 6 then (some (some 10000022, h)) else (if a0 = 7 then (some (some 10000023, h)) else (if a0 = 8 then (some (some 10000024, h)) else (if a0 = 9 then (some (some 10000025, h)) else (some (some 10000026, h)))))))
set_option maxRecDepth 20000 in
theorem kf_x_keyword {l : Launch} {G : XG} {d : Nat} {a0 : Int32} {h : XH} {r : Option Nat × XH} (L0 : LY h) (hf : f_x_keyword a0 h = some r) : XC l G xEX6_keyword d [.int a0] h (fun v h2 => (h2 = r.2 ∧ v = some (va_rf r.1)) ∧ LY r.2) := by
  refine XC.stat xsX6_keyword (Nat.le_of_ble_eq_true rfl) ?_
  unfold f_x_keyword at hf
  refine XR.norm (L3 := [some (.int a0)]) rfl ?_
  refine XS.go (s_iloadn rfl rfl rfl) ?_
  by_cases qs1_0 : a0 = 5
  · replace hf := xi_pos hf qs1_0
    refine XS.go (s_tswI (tgt := 36) rfl (by rw [qs1_0]; decide) (by rw [qs1_0]; decide) (by rw [qs1_0]; rfl) rfl) ?_
    refine XS.go (s_ldcs (i := 11) rfl rfl rfl) ?_
    cases hf
    exact XR.reta (o := (some 10000021)) rfl rfl (fun hret => ⟨_, hret, ⟨rfl, rfl⟩, L0⟩)
  replace hf := xi_neg hf qs1_0
  by_cases qs1_1 : a0 = 6
  · replace hf := xi_pos hf qs1_1
    refine XS.go (s_tswI (tgt := 39) rfl (by rw [qs1_1]; decide) (by rw [qs1_1]; decide) (by rw [qs1_1]; rfl) rfl) ?_
    refine XS.go (s_ldcs (i := 12) rfl rfl rfl) ?_
    cases hf
    exact XR.reta (o := (some 10000022)) rfl rfl (fun hret => ⟨_, hret, ⟨rfl, rfl⟩, L0⟩)
  replace hf := xi_neg hf qs1_1
  by_cases qs1_2 : a0 = 7
  · replace hf := xi_pos hf qs1_2
    refine XS.go (s_tswI (tgt := 42) rfl (by rw [qs1_2]; decide) (by rw [qs1_2]; decide) (by rw [qs1_2]; rfl) rfl) ?_
    refine XS.go (s_ldcs (i := 13) rfl rfl rfl) ?_
    cases hf
    exact XR.reta (o := (some 10000023)) rfl rfl (fun hret => ⟨_, hret, ⟨rfl, rfl⟩, L0⟩)
  replace hf := xi_neg hf qs1_2
  by_cases qs1_3 : a0 = 8
  · replace hf := xi_pos hf qs1_3
    refine XS.go (s_tswI (tgt := 45) rfl (by rw [qs1_3]; decide) (by rw [qs1_3]; decide) (by rw [qs1_3]; rfl) rfl) ?_
    refine XS.go (s_ldcs (i := 14) rfl rfl rfl) ?_
    cases hf
    exact XR.reta (o := (some 10000024)) rfl rfl (fun hret => ⟨_, hret, ⟨rfl, rfl⟩, L0⟩)
  replace hf := xi_neg hf qs1_3
  by_cases qs1_4 : a0 = 9
  · replace hf := xi_pos hf qs1_4
    refine XS.go (s_tswI (tgt := 48) rfl (by rw [qs1_4]; decide) (by rw [qs1_4]; decide) (by rw [qs1_4]; rfl) rfl) ?_
    refine XS.go (s_ldcs (i := 15) rfl rfl rfl) ?_
    cases hf
    exact XR.reta (o := (some 10000025)) rfl rfl (fun hret => ⟨_, hret, ⟨rfl, rfl⟩, L0⟩)
  replace hf := xi_neg hf qs1_4
  have qs1_o : (a0).toInt < 5 ∨ 9 < (a0).toInt := by
    refine tsw_out 5 9 (by decide) ?_
    intro k h1 h2
    have z : k = 5 ∨ k = 6 ∨ k = 7 ∨ k = 8 ∨ k = 9 := by omega
    rcases z with rfl | rfl | rfl | rfl | rfl
    · exact qs1_0
    · exact qs1_1
    · exact qs1_2
    · exact qs1_3
    · exact qs1_4
  refine XS.go (s_tswO (tgt := 51) rfl qs1_o rfl) ?_
  refine XS.go (s_ldcs (i := 16) rfl rfl rfl) ?_
  cases hf
  exact XR.reta (o := (some 10000026)) rfl rfl (fun hret => ⟨_, hret, ⟨rfl, rfl⟩, L0⟩)
def f_x_scalarWord (a0 : Int32) (h : XH) : Option (Option Nat × XH) := (if a0 = 0 then (some (some 10000010, h)) else (if a0 = 1 then (some (some 10000011, h)) else (if a0 = 2 then (some (some 10000012, h)) else (if a0 = 3 then (some (some 10000013, h)) else (if a0 = 4 then (some (some 10000014, h)) else (if a0 = 5 then (some (some 10000015, h)) else (if a0 = 6 then (some (some 10000016, h)) else (if a0 = 7 then (some (some 10000017, h)) else (if a0 = 8 then (some (some 10000018, h)) else (if a0 = 9 then (some (some 10000019, h)) else (some (some 10000020, h))))))))))))
set_option maxRecDepth 20000 in
theorem kf_x_scalarWord {l : Launch} {G : XG} {d : Nat} {a0 : Int32} {h : XH} {r : Option Nat × XH} (L0 : LY h) (hf : f_x_scalarWord a0 h = some r) : XC l G xEX6_scalarWord d [.int a0] h (fun v h2 => (h2 = r.2 ∧ v = some (va_rf r.1)) ∧ LY r.2) := by
  refine XC.stat xsX6_scalarWord (Nat.le_of_ble_eq_true rfl) ?_
  unfold f_x_scalarWord at hf
  refine XR.norm (L3 := [some (.int a0)]) rfl ?_
  refine XS.go (s_iloadn rfl rfl rfl) ?_
  by_cases qs1_0 : a0 = 0
  · replace hf := xi_pos hf qs1_0
    refine XS.go (s_tswI (tgt := 56) rfl (by rw [qs1_0]; decide) (by rw [qs1_0]; decide) (by rw [qs1_0]; rfl) rfl) ?_
    refine XS.go (s_ldcs (i := 0) rfl rfl rfl) ?_
    cases hf
    exact XR.reta (o := (some 10000010)) rfl rfl (fun hret => ⟨_, hret, ⟨rfl, rfl⟩, L0⟩)
  replace hf := xi_neg hf qs1_0
  by_cases qs1_1 : a0 = 1
  · replace hf := xi_pos hf qs1_1
    refine XS.go (s_tswI (tgt := 59) rfl (by rw [qs1_1]; decide) (by rw [qs1_1]; decide) (by rw [qs1_1]; rfl) rfl) ?_
    refine XS.go (s_ldcs (i := 1) rfl rfl rfl) ?_
    cases hf
    exact XR.reta (o := (some 10000011)) rfl rfl (fun hret => ⟨_, hret, ⟨rfl, rfl⟩, L0⟩)
  replace hf := xi_neg hf qs1_1
  by_cases qs1_2 : a0 = 2
  · replace hf := xi_pos hf qs1_2
    refine XS.go (s_tswI (tgt := 62) rfl (by rw [qs1_2]; decide) (by rw [qs1_2]; decide) (by rw [qs1_2]; rfl) rfl) ?_
    refine XS.go (s_ldcs (i := 2) rfl rfl rfl) ?_
    cases hf
    exact XR.reta (o := (some 10000012)) rfl rfl (fun hret => ⟨_, hret, ⟨rfl, rfl⟩, L0⟩)
  replace hf := xi_neg hf qs1_2
  by_cases qs1_3 : a0 = 3
  · replace hf := xi_pos hf qs1_3
    refine XS.go (s_tswI (tgt := 65) rfl (by rw [qs1_3]; decide) (by rw [qs1_3]; decide) (by rw [qs1_3]; rfl) rfl) ?_
    refine XS.go (s_ldcs (i := 3) rfl rfl rfl) ?_
    cases hf
    exact XR.reta (o := (some 10000013)) rfl rfl (fun hret => ⟨_, hret, ⟨rfl, rfl⟩, L0⟩)
  replace hf := xi_neg hf qs1_3
  by_cases qs1_4 : a0 = 4
  · replace hf := xi_pos hf qs1_4
    refine XS.go (s_tswI (tgt := 68) rfl (by rw [qs1_4]; decide) (by rw [qs1_4]; decide) (by rw [qs1_4]; rfl) rfl) ?_
    refine XS.go (s_ldcs (i := 4) rfl rfl rfl) ?_
    cases hf
    exact XR.reta (o := (some 10000014)) rfl rfl (fun hret => ⟨_, hret, ⟨rfl, rfl⟩, L0⟩)
  replace hf := xi_neg hf qs1_4
  by_cases qs1_5 : a0 = 5
  · replace hf := xi_pos hf qs1_5
    refine XS.go (s_tswI (tgt := 71) rfl (by rw [qs1_5]; decide) (by rw [qs1_5]; decide) (by rw [qs1_5]; rfl) rfl) ?_
    refine XS.go (s_ldcs (i := 5) rfl rfl rfl) ?_
    cases hf
    exact XR.reta (o := (some 10000015)) rfl rfl (fun hret => ⟨_, hret, ⟨rfl, rfl⟩, L0⟩)
  replace hf := xi_neg hf qs1_5
  by_cases qs1_6 : a0 = 6
  · replace hf := xi_pos hf qs1_6
    refine XS.go (s_tswI (tgt := 74) rfl (by rw [qs1_6]; decide) (by rw [qs1_6]; decide) (by rw [qs1_6]; rfl) rfl) ?_
    refine XS.go (s_ldcs (i := 6) rfl rfl rfl) ?_
    cases hf
    exact XR.reta (o := (some 10000016)) rfl rfl (fun hret => ⟨_, hret, ⟨rfl, rfl⟩, L0⟩)
  replace hf := xi_neg hf qs1_6
  by_cases qs1_7 : a0 = 7
  · replace hf := xi_pos hf qs1_7
    refine XS.go (s_tswI (tgt := 77) rfl (by rw [qs1_7]; decide) (by rw [qs1_7]; decide) (by rw [qs1_7]; rfl) rfl) ?_
    refine XS.go (s_ldcs (i := 7) rfl rfl rfl) ?_
    cases hf
    exact XR.reta (o := (some 10000017)) rfl rfl (fun hret => ⟨_, hret, ⟨rfl, rfl⟩, L0⟩)
  replace hf := xi_neg hf qs1_7
  by_cases qs1_8 : a0 = 8
  · replace hf := xi_pos hf qs1_8
    refine XS.go (s_tswI (tgt := 80) rfl (by rw [qs1_8]; decide) (by rw [qs1_8]; decide) (by rw [qs1_8]; rfl) rfl) ?_
    refine XS.go (s_ldcs (i := 8) rfl rfl rfl) ?_
    cases hf
    exact XR.reta (o := (some 10000018)) rfl rfl (fun hret => ⟨_, hret, ⟨rfl, rfl⟩, L0⟩)
  replace hf := xi_neg hf qs1_8
  by_cases qs1_9 : a0 = 9
  · replace hf := xi_pos hf qs1_9
    refine XS.go (s_tswI (tgt := 83) rfl (by rw [qs1_9]; decide) (by rw [qs1_9]; decide) (by rw [qs1_9]; rfl) rfl) ?_
    refine XS.go (s_ldcs (i := 9) rfl rfl rfl) ?_
    cases hf
    exact XR.reta (o := (some 10000019)) rfl rfl (fun hret => ⟨_, hret, ⟨rfl, rfl⟩, L0⟩)
  replace hf := xi_neg hf qs1_9
  have qs1_o : (a0).toInt < 0 ∨ 9 < (a0).toInt := by
    refine tsw_out 0 9 (by decide) ?_
    intro k h1 h2
    have z : k = 0 ∨ k = 1 ∨ k = 2 ∨ k = 3 ∨ k = 4 ∨ k = 5 ∨ k = 6 ∨ k = 7 ∨ k = 8 ∨ k = 9 := by omega
    rcases z with rfl | rfl | rfl | rfl | rfl | rfl | rfl | rfl | rfl | rfl
    · exact qs1_0
    · exact qs1_1
    · exact qs1_2
    · exact qs1_3
    · exact qs1_4
    · exact qs1_5
    · exact qs1_6
    · exact qs1_7
    · exact qs1_8
    · exact qs1_9
  refine XS.go (s_tswO (tgt := 86) rfl qs1_o rfl) ?_
  refine XS.go (s_ldcs (i := 10) rfl rfl rfl) ?_
  cases hf
  exact XR.reta (o := (some 10000020)) rfl rfl (fun hret => ⟨_, hret, ⟨rfl, rfl⟩, L0⟩)
def s_x_takeWord_102 (K102 : Nat → Int32 → Int32 → XH → Option (Int32 × XH)) (x1 : Nat) (x2 : Int32) (x3 : Int32) (h : XH) : Option (Int32 × XH) := (if 10 < x3 then (if x1 < hz h ∧ hk h x1 = 1 then (Option.bind (f_b_packed x1 x2 (hi h 7 5) h) fun r3 => (if x1 < hz r3.2 ∧ hk r3.2 x1 = 1 then (Option.bind (f_b_packed x1 (x2 + 8) (hi r3.2 7 5) r3.2) fun r7 => (Option.bind (f_x_keep 2 x2 r3.1 r7.1 r7.2) fun r10 => (some (r10.1, r10.2)))) else none)) else none) else (Option.bind (f_x_keyword x3 h) fun r13 => (Option.bind (r13.1) fun b16 => (Option.bind (f_x_isWord x1 x2 b16 r13.2) fun r18 => (if r18.1 = 0 then (K102 x1 x2 (x3 + 1) r18.2) else (Option.bind (f_x_keep x3 x2 (0 : Int64) (0 : Int64) r18.2) fun r22 => (some (r22.1, r22.2))))))))
set_option maxRecDepth 20000 in
theorem ks_x_takeWord_102 {l : Launch} {G : XG} {d : Nat} {K102 : Nat → Int32 → Int32 → XH → Option (Int32 × XH)} {x1 : Nat} {x2 : Int32} {x3 : Int32} {h : XH} {r : Int32 × XH} (hK102 : ∀ (x1 : Nat) (x2 : Int32) (x3 : Int32) (h : XH), LY h → K102 x1 x2 x3 h = some r → XR l G xEX6_takeWord (d + 5) (102, [some (.ref 7), some (.ref x1), some (.int x2), some (.int x3)], [], h) (fun C => ∃ v, xRet xEX6_takeWord C v ∧ (C.2.2.2 = r.2 ∧ v = some (.int r.1)) ∧ LY r.2)) (L0 : LY h) (hf : s_x_takeWord_102 K102 x1 x2 x3 h = some r) : XR l G xEX6_takeWord (d + 5) (102, [some (.ref 7), some (.ref x1), some (.int x2), some (.int x3)], [], h) (fun C => ∃ v, xRet xEX6_takeWord C v ∧ (C.2.2.2 = r.2 ∧ v = some (.int r.1)) ∧ LY r.2) := by
  unfold s_x_takeWord_102 at hf
  refine XS.go (s_iloadn rfl rfl rfl) ?_
  refine XS.go (s_bipush (v := 10) rfl rfl) ?_
  refine r_icmp_gt (tgt := 136) rfl rfl (fun qc1 => ?_) (fun qc1 => ?_)
  · replace hf := xi_pos hf qc1
    refine XS.go (s_aloadn rfl rfl rfl) ?_
    refine XS.go (s_iconst (v := 2) rfl rfl) ?_
    refine XS.go (s_iloadn rfl rfl rfl) ?_
    refine XS.go (s_aloadn rfl rfl rfl) ?_
    refine XS.go (s_iloadn rfl rfl rfl) ?_
    refine XS.go (s_aloadn rfl rfl rfl) ?_
    refine XS.go (s_getie rfl xf6_29 (LY.lt L0 (by decide)) (LY.k7 L0) (by decide) rfl rfl) ?_
    replace hf := xi_none hf
    obtain ⟨qk2, hf⟩ := hf
    replace hf := xb_some hf
    obtain ⟨r3, e4, hf⟩ := hf
    refine r_callv rfl xvX1_packed xm6_93 (kf_b_packed (d := d) L0 e4) qk2.1 qk2.2 (by decide) rfl rfl (dl (by decide)) (by decide) (Nat.le_of_ble_eq_true rfl) ?_
    rintro _ _ ⟨⟨rfl, rfl⟩, L5⟩
    refine XS.go (s_aloadn rfl rfl rfl) ?_
    refine XS.go (s_iloadn rfl rfl rfl) ?_
    refine XS.go (s_bipush (v := 8) rfl rfl) ?_
    refine XS.go (s_iadd rfl) ?_
    refine XS.go (s_aloadn rfl rfl rfl) ?_
    refine XS.go (s_getie rfl xf6_29 (LY.lt L5 (by decide)) (LY.k7 L5) (by decide) rfl rfl) ?_
    replace hf := xi_none hf
    obtain ⟨qk6, hf⟩ := hf
    replace hf := xb_some hf
    obtain ⟨r7, e8, hf⟩ := hf
    refine r_callv rfl xvX1_packed xm6_93 (kf_b_packed (d := d) L5 e8) qk6.1 qk6.2 (by decide) rfl rfl (dl (by decide)) (by decide) (Nat.le_of_ble_eq_true rfl) ?_
    rintro _ _ ⟨⟨rfl, rfl⟩, L9⟩
    replace hf := xb_some hf
    obtain ⟨r10, e11, hf⟩ := hf
    refine r_callv rfl xvX6_keep xm6_46 (kf_x_keep (d := d) L9 e11) (LY.lt L9 (by decide)) (LY.k7 L9) (by decide) rfl rfl (dl0 (by decide)) (by decide) (Nat.le_of_ble_eq_true rfl) ?_
    rintro _ _ ⟨⟨rfl, rfl⟩, L12⟩
    cases hf
    exact XR.reti rfl rfl (fun hret => ⟨_, hret, ⟨rfl, rfl⟩, L12⟩)
  · replace hf := xi_neg hf qc1
    refine XS.go (s_aloadn rfl rfl rfl) ?_
    refine XS.go (s_aloadn rfl rfl rfl) ?_
    refine XS.go (s_iloadn rfl rfl rfl) ?_
    refine XS.go (s_iloadn rfl rfl rfl) ?_
    replace hf := xb_some hf
    obtain ⟨r13, e14, hf⟩ := hf
    refine r_calls rfl xsX6_keyword xm6_90 (kf_x_keyword (d := d) L0 e14) rfl rfl (dl0 (by decide)) (by decide) (Nat.le_of_ble_eq_true rfl) ?_
    rintro _ _ ⟨⟨rfl, rfl⟩, L15⟩
    replace hf := xb_some hf
    obtain ⟨b16, qo17, hf⟩ := hf
    try rw [qo17]
    replace hf := xb_some hf
    obtain ⟨r18, e19, hf⟩ := hf
    refine r_callv rfl xvX6_isWord xm6_86 (kf_x_isWord (d := d) L15 e19) (LY.lt L15 (by decide)) (LY.k7 L15) (by decide) rfl rfl (dl (by decide)) (by decide) (Nat.le_of_ble_eq_true rfl) ?_
    rintro _ _ ⟨⟨rfl, rfl⟩, L20⟩
    refine r_if_eq (tgt := 130) rfl rfl (fun qc21 => ?_) (fun qc21 => ?_)
    · replace hf := xi_pos hf qc21
      refine XS.go (XS.lcl (L3 := [some (.ref 7), some (.ref x1), some (.int x2), some (.int (x3 + 1))]) (s_inc rfl rfl (Nat.le_of_ble_eq_true rfl)) rfl) ?_
      refine XS.go (s_goto (tgt := 102) rfl rfl) ?_
      exact XR.forget (L2 := [some (.ref 7), some (.ref x1), some (.int x2), some (.int (x3 + 1))]) ⟨rfl, ⟨rfl, ⟨rfl, ⟨rfl, trivial⟩⟩⟩⟩ (hK102 x1 x2 (x3 + 1) _ L20 hf)
    · replace hf := xi_neg hf qc21
      refine XS.go (s_aloadn rfl rfl rfl) ?_
      refine XS.go (s_iloadn rfl rfl rfl) ?_
      refine XS.go (s_iloadn rfl rfl rfl) ?_
      refine XS.go (s_lconst (v := 0) rfl rfl) ?_
      refine XS.go (s_lconst (v := 0) rfl rfl) ?_
      replace hf := xb_some hf
      obtain ⟨r22, e23, hf⟩ := hf
      refine r_callv rfl xvX6_keep xm6_46 (kf_x_keep (d := d) L20 e23) (LY.lt L20 (by decide)) (LY.k7 L20) (by decide) rfl rfl (dl0 (by decide)) (by decide) (Nat.le_of_ble_eq_true rfl) ?_
      rintro _ _ ⟨⟨rfl, rfl⟩, L24⟩
      cases hf
      exact XR.reti rfl rfl (fun hret => ⟨_, hret, ⟨rfl, rfl⟩, L24⟩)
def b_x_takeWord_102 : Nat → Nat → Int32 → Int32 → XH → Option (Int32 × XH)
  | 0, _, _, _, _ => none
  | n + 1, x1, x2, x3, h => s_x_takeWord_102 (b_x_takeWord_102 n) x1 x2 x3 h
theorem kb_x_takeWord_102 {l : Launch} {G : XG} {d : Nat} {n : Nat} {x1 : Nat} {x2 : Int32} {x3 : Int32} {h : XH} {r : Int32 × XH} (L0 : LY h) (hf : b_x_takeWord_102 n x1 x2 x3 h = some r) : XR l G xEX6_takeWord (d + 5) (102, [some (.ref 7), some (.ref x1), some (.int x2), some (.int x3)], [], h) (fun C => ∃ v, xRet xEX6_takeWord C v ∧ (C.2.2.2 = r.2 ∧ v = some (.int r.1)) ∧ LY r.2) := by
  induction n generalizing x1 x2 x3 h with
  | zero => cases hf
  | succ n ih => exact ks_x_takeWord_102 (fun x1 x2 x3 h L0 hf => ih (h := h) (x1 := x1) (x2 := x2) (x3 := x3) L0 hf) L0 hf
def s_x_takeWord_65 (K65 : Nat → Int32 → Int32 → XH → Option (Int32 × XH)) (x1 : Nat) (x2 : Int32) (x3 : Int32) (h : XH) : Option (Int32 × XH) := (if 11 ≤ x3 then (b_x_takeWord_102 100000 x1 x2 5 h) else (Option.bind (f_x_scalarWord x3 h) fun r26 => (Option.bind (r26.1) fun b29 => (Option.bind (f_x_isWord x1 x2 b29 r26.2) fun r31 => (if r31.1 = 0 then (K65 x1 x2 (x3 + 1) r31.2) else (Option.bind (f_x_keep 4 x2 (Int32.toInt64 x3) (0 : Int64) r31.2) fun r35 => (some (r35.1, r35.2))))))))
set_option maxRecDepth 20000 in
theorem ks_x_takeWord_65 {l : Launch} {G : XG} {d : Nat} {K65 : Nat → Int32 → Int32 → XH → Option (Int32 × XH)} {x1 : Nat} {x2 : Int32} {x3 : Int32} {h : XH} {r : Int32 × XH} (hK65 : ∀ (x1 : Nat) (x2 : Int32) (x3 : Int32) (h : XH), LY h → K65 x1 x2 x3 h = some r → XR l G xEX6_takeWord (d + 5) (65, [some (.ref 7), some (.ref x1), some (.int x2), some (.int x3)], [], h) (fun C => ∃ v, xRet xEX6_takeWord C v ∧ (C.2.2.2 = r.2 ∧ v = some (.int r.1)) ∧ LY r.2)) (L0 : LY h) (hf : s_x_takeWord_65 K65 x1 x2 x3 h = some r) : XR l G xEX6_takeWord (d + 5) (65, [some (.ref 7), some (.ref x1), some (.int x2), some (.int x3)], [], h) (fun C => ∃ v, xRet xEX6_takeWord C v ∧ (C.2.2.2 = r.2 ∧ v = some (.int r.1)) ∧ LY r.2) := by
  unfold s_x_takeWord_65 at hf
  refine XS.go (s_iloadn rfl rfl rfl) ?_
  refine XS.go (s_bipush (v := 11) rfl rfl) ?_
  refine r_icmp_ge (tgt := 100) rfl rfl (fun qc25 => ?_) (fun qc25 => ?_)
  · replace hf := xi_pos hf qc25
    refine XS.go (s_iconst (v := 5) rfl rfl) ?_
    refine XS.go (XS.lcl (L3 := [some (.ref 7), some (.ref x1), some (.int x2), some (.int 5)]) (s_istoren rfl rfl (Nat.le_of_ble_eq_true rfl)) rfl) ?_
    exact XR.forget (L2 := [some (.ref 7), some (.ref x1), some (.int x2), some (.int 5)]) ⟨rfl, ⟨rfl, ⟨rfl, ⟨rfl, trivial⟩⟩⟩⟩ (kb_x_takeWord_102 L0 hf)
  · replace hf := xi_neg hf qc25
    refine XS.go (s_aloadn rfl rfl rfl) ?_
    refine XS.go (s_aloadn rfl rfl rfl) ?_
    refine XS.go (s_iloadn rfl rfl rfl) ?_
    refine XS.go (s_iloadn rfl rfl rfl) ?_
    replace hf := xb_some hf
    obtain ⟨r26, e27, hf⟩ := hf
    refine r_calls rfl xsX6_scalarWord xm6_82 (kf_x_scalarWord (d := d) L0 e27) rfl rfl (dl0 (by decide)) (by decide) (Nat.le_of_ble_eq_true rfl) ?_
    rintro _ _ ⟨⟨rfl, rfl⟩, L28⟩
    replace hf := xb_some hf
    obtain ⟨b29, qo30, hf⟩ := hf
    try rw [qo30]
    replace hf := xb_some hf
    obtain ⟨r31, e32, hf⟩ := hf
    refine r_callv rfl xvX6_isWord xm6_86 (kf_x_isWord (d := d) L28 e32) (LY.lt L28 (by decide)) (LY.k7 L28) (by decide) rfl rfl (dl (by decide)) (by decide) (Nat.le_of_ble_eq_true rfl) ?_
    rintro _ _ ⟨⟨rfl, rfl⟩, L33⟩
    refine r_if_eq (tgt := 94) rfl rfl (fun qc34 => ?_) (fun qc34 => ?_)
    · replace hf := xi_pos hf qc34
      refine XS.go (XS.lcl (L3 := [some (.ref 7), some (.ref x1), some (.int x2), some (.int (x3 + 1))]) (s_inc rfl rfl (Nat.le_of_ble_eq_true rfl)) rfl) ?_
      refine XS.go (s_goto (tgt := 65) rfl rfl) ?_
      exact XR.forget (L2 := [some (.ref 7), some (.ref x1), some (.int x2), some (.int (x3 + 1))]) ⟨rfl, ⟨rfl, ⟨rfl, ⟨rfl, trivial⟩⟩⟩⟩ (hK65 x1 x2 (x3 + 1) _ L33 hf)
    · replace hf := xi_neg hf qc34
      refine XS.go (s_aloadn rfl rfl rfl) ?_
      refine XS.go (s_iconst (v := 4) rfl rfl) ?_
      refine XS.go (s_iloadn rfl rfl rfl) ?_
      refine XS.go (s_iloadn rfl rfl rfl) ?_
      refine XS.go (s_i2l rfl) ?_
      refine XS.go (s_lconst (v := 0) rfl rfl) ?_
      replace hf := xb_some hf
      obtain ⟨r35, e36, hf⟩ := hf
      refine r_callv rfl xvX6_keep xm6_46 (kf_x_keep (d := d) L33 e36) (LY.lt L33 (by decide)) (LY.k7 L33) (by decide) rfl rfl (dl0 (by decide)) (by decide) (Nat.le_of_ble_eq_true rfl) ?_
      rintro _ _ ⟨⟨rfl, rfl⟩, L37⟩
      cases hf
      exact XR.reti rfl rfl (fun hret => ⟨_, hret, ⟨rfl, rfl⟩, L37⟩)
def b_x_takeWord_65 : Nat → Nat → Int32 → Int32 → XH → Option (Int32 × XH)
  | 0, _, _, _, _ => none
  | n + 1, x1, x2, x3, h => s_x_takeWord_65 (b_x_takeWord_65 n) x1 x2 x3 h
theorem kb_x_takeWord_65 {l : Launch} {G : XG} {d : Nat} {n : Nat} {x1 : Nat} {x2 : Int32} {x3 : Int32} {h : XH} {r : Int32 × XH} (L0 : LY h) (hf : b_x_takeWord_65 n x1 x2 x3 h = some r) : XR l G xEX6_takeWord (d + 5) (65, [some (.ref 7), some (.ref x1), some (.int x2), some (.int x3)], [], h) (fun C => ∃ v, xRet xEX6_takeWord C v ∧ (C.2.2.2 = r.2 ∧ v = some (.int r.1)) ∧ LY r.2) := by
  induction n generalizing x1 x2 x3 h with
  | zero => cases hf
  | succ n ih => exact ks_x_takeWord_65 (fun x1 x2 x3 h L0 hf => ih (h := h) (x1 := x1) (x2 := x2) (x3 := x3) L0 hf) L0 hf
def b_x_takeWord_43 (x1 : Nat) (x2 : Int32) (h : XH) : Option (Int32 × XH) := (if ((hi h 7 5) - x2) ≤ 16 then (b_x_takeWord_65 100000 x1 x2 0 h) else (Option.bind (f_x_keep 1 x2 (0 : Int64) (0 : Int64) h) fun r39 => (some (r39.1, r39.2))))
set_option maxRecDepth 20000 in
theorem kb_x_takeWord_43 {l : Launch} {G : XG} {d : Nat} {x1 : Nat} {x2 : Int32} {h : XH} {r : Int32 × XH} (L0 : LY h) (hf : b_x_takeWord_43 x1 x2 h = some r) : XR l G xEX6_takeWord (d + 5) (43, [some (.ref 7), some (.ref x1), some (.int x2), none], [], h) (fun C => ∃ v, xRet xEX6_takeWord C v ∧ (C.2.2.2 = r.2 ∧ v = some (.int r.1)) ∧ LY r.2) := by
  unfold b_x_takeWord_43 at hf
  refine XS.go (s_aloadn rfl rfl rfl) ?_
  refine XS.go (s_getie rfl xf6_29 (LY.lt L0 (by decide)) (LY.k7 L0) (by decide) rfl rfl) ?_
  refine XS.go (s_iloadn rfl rfl rfl) ?_
  refine XS.go (s_isub rfl) ?_
  refine XS.go (s_bipush (v := 16) rfl rfl) ?_
  refine r_icmp_le (tgt := 63) rfl rfl (fun qc38 => ?_) (fun qc38 => ?_)
  · replace hf := xi_pos hf qc38
    refine XS.go (s_iconst (v := 0) rfl rfl) ?_
    refine XS.go (XS.lcl (L3 := [some (.ref 7), some (.ref x1), some (.int x2), some (.int 0)]) (s_istoren rfl rfl (Nat.le_of_ble_eq_true rfl)) rfl) ?_
    exact XR.forget (L2 := [some (.ref 7), some (.ref x1), some (.int x2), some (.int 0)]) ⟨rfl, ⟨rfl, ⟨rfl, ⟨rfl, trivial⟩⟩⟩⟩ (kb_x_takeWord_65 L0 hf)
  · replace hf := xi_neg hf qc38
    refine XS.go (s_aloadn rfl rfl rfl) ?_
    refine XS.go (s_iconst (v := 1) rfl rfl) ?_
    refine XS.go (s_iloadn rfl rfl rfl) ?_
    refine XS.go (s_lconst (v := 0) rfl rfl) ?_
    refine XS.go (s_lconst (v := 0) rfl rfl) ?_
    replace hf := xb_some hf
    obtain ⟨r39, e40, hf⟩ := hf
    refine r_callv rfl xvX6_keep xm6_46 (kf_x_keep (d := d) L0 e40) (LY.lt L0 (by decide)) (LY.k7 L0) (by decide) rfl rfl (dl0 (by decide)) (by decide) (Nat.le_of_ble_eq_true rfl) ?_
    rintro _ _ ⟨⟨rfl, rfl⟩, L41⟩
    cases hf
    exact XR.reti rfl rfl (fun hret => ⟨_, hret, ⟨rfl, rfl⟩, L41⟩)
def s_x_takeWord_5 (K5 : Nat → Int32 → XH → Option (Int32 × XH)) (x1 : Nat) (x2 : Int32) (h : XH) : Option (Int32 × XH) := (if x1 < hz h ∧ hk h x1 = 1 then (if (hi h x1 1) ≤ (hi h 7 5) then (b_x_takeWord_43 x1 x2 h) else (Option.bind (f_b_octet x1 (hi h 7 5) h) fun r44 => (Option.bind (f_x_isWordSign r44.1 r44.2) fun r47 => (if r47.1 = 0 then (b_x_takeWord_43 x1 x2 r47.2) else (K5 x1 x2 (hsi r47.2 7 5 ((hi r47.2 7 5) + 1))))))) else none)
set_option maxRecDepth 20000 in
theorem ks_x_takeWord_5 {l : Launch} {G : XG} {d : Nat} {K5 : Nat → Int32 → XH → Option (Int32 × XH)} {x1 : Nat} {x2 : Int32} {h : XH} {r : Int32 × XH} (hK5 : ∀ (x1 : Nat) (x2 : Int32) (h : XH), LY h → K5 x1 x2 h = some r → XR l G xEX6_takeWord (d + 5) (5, [some (.ref 7), some (.ref x1), some (.int x2), none], [], h) (fun C => ∃ v, xRet xEX6_takeWord C v ∧ (C.2.2.2 = r.2 ∧ v = some (.int r.1)) ∧ LY r.2)) (L0 : LY h) (hf : s_x_takeWord_5 K5 x1 x2 h = some r) : XR l G xEX6_takeWord (d + 5) (5, [some (.ref 7), some (.ref x1), some (.int x2), none], [], h) (fun C => ∃ v, xRet xEX6_takeWord C v ∧ (C.2.2.2 = r.2 ∧ v = some (.int r.1)) ∧ LY r.2) := by
  unfold s_x_takeWord_5 at hf
  refine XS.go (s_aloadn rfl rfl rfl) ?_
  refine XS.go (s_getie rfl xf6_29 (LY.lt L0 (by decide)) (LY.k7 L0) (by decide) rfl rfl) ?_
  refine XS.go (s_aloadn rfl rfl rfl) ?_
  replace hf := xi_none hf
  obtain ⟨qk42, hf⟩ := hf
  refine XS.go (s_getie rfl xf6_70 qk42.1 qk42.2 (by decide) rfl rfl) ?_
  refine r_icmp_ge (tgt := 43) rfl rfl (fun qc43 => ?_) (fun qc43 => ?_)
  · replace hf := xi_pos hf qc43
    exact XR.forget (L2 := [some (.ref 7), some (.ref x1), some (.int x2), none]) ⟨rfl, ⟨rfl, ⟨rfl, trivial⟩⟩⟩ (kb_x_takeWord_43 L0 hf)
  · replace hf := xi_neg hf qc43
    refine XS.go (s_aloadn rfl rfl rfl) ?_
    refine XS.go (s_aloadn rfl rfl rfl) ?_
    refine XS.go (s_getie rfl xf6_29 (LY.lt L0 (by decide)) (LY.k7 L0) (by decide) rfl rfl) ?_
    replace hf := xb_some hf
    obtain ⟨r44, e45, hf⟩ := hf
    refine r_callv rfl xvX1_octet xm6_73 (kf_b_octet (d := d) L0 e45) qk42.1 qk42.2 (by decide) rfl rfl (dl0 (by decide)) (by decide) (Nat.le_of_ble_eq_true rfl) ?_
    rintro _ _ ⟨⟨rfl, rfl⟩, L46⟩
    replace hf := xb_some hf
    obtain ⟨r47, e48, hf⟩ := hf
    refine r_calls rfl xsX6_isWordSign xm6_79 (kf_x_isWordSign (d := d) L46 e48) rfl rfl (dl (by decide)) (by decide) (Nat.le_of_ble_eq_true rfl) ?_
    rintro _ _ ⟨⟨rfl, rfl⟩, L49⟩
    refine r_if_eq (tgt := 43) rfl rfl (fun qc50 => ?_) (fun qc50 => ?_)
    · replace hf := xi_pos hf qc50
      exact XR.forget (L2 := [some (.ref 7), some (.ref x1), some (.int x2), none]) ⟨rfl, ⟨rfl, ⟨rfl, trivial⟩⟩⟩ (kb_x_takeWord_43 L49 hf)
    · replace hf := xi_neg hf qc50
      refine XS.go (s_aloadn rfl rfl rfl) ?_
      refine XS.go (s_dup rfl rfl) ?_
      refine XS.go (s_getie rfl xf6_29 (LY.lt L49 (by decide)) (LY.k7 L49) (by decide) rfl rfl) ?_
      refine XS.go (s_iconst (v := 1) rfl rfl) ?_
      refine XS.go (s_iadd rfl) ?_
      refine XS.go (s_puti rfl xf6_29 (LY.lt L49 (by decide)) (LY.k7 L49) (by decide) rfl (Or.inl rfl)) ?_
      refine XS.go (s_goto (tgt := 5) rfl rfl) ?_
      exact XR.forget (L2 := [some (.ref 7), some (.ref x1), some (.int x2), none]) ⟨rfl, ⟨rfl, ⟨rfl, trivial⟩⟩⟩ (hK5 x1 x2 _ (by simp only [LY_si, LY_sj]; exact L49) hf)
def b_x_takeWord_5 : Nat → Nat → Int32 → XH → Option (Int32 × XH)
  | 0, _, _, _ => none
  | n + 1, x1, x2, h => s_x_takeWord_5 (b_x_takeWord_5 n) x1 x2 h
theorem kb_x_takeWord_5 {l : Launch} {G : XG} {d : Nat} {n : Nat} {x1 : Nat} {x2 : Int32} {h : XH} {r : Int32 × XH} (L0 : LY h) (hf : b_x_takeWord_5 n x1 x2 h = some r) : XR l G xEX6_takeWord (d + 5) (5, [some (.ref 7), some (.ref x1), some (.int x2), none], [], h) (fun C => ∃ v, xRet xEX6_takeWord C v ∧ (C.2.2.2 = r.2 ∧ v = some (.int r.1)) ∧ LY r.2) := by
  induction n generalizing x1 x2 h with
  | zero => cases hf
  | succ n ih => exact ks_x_takeWord_5 (fun x1 x2 h L0 hf => ih (h := h) (x1 := x1) (x2 := x2) L0 hf) L0 hf
def f_x_takeWord (a0 : Nat) (h : XH) : Option (Int32 × XH) := (b_x_takeWord_5 100000 a0 (hi h 7 5) h)
set_option maxRecDepth 20000 in
theorem kf_x_takeWord {l : Launch} {G : XG} {d : Nat} {a0 : Nat} {h : XH} {r : Int32 × XH} (L0 : LY h) (hf : f_x_takeWord a0 h = some r) : XC l G xEX6_takeWord (d + 5) [.ref 7, .ref a0] h (fun v h2 => (h2 = r.2 ∧ v = some (.int r.1)) ∧ LY r.2) := by
  refine XC.virt xvX6_takeWord (Nat.le_of_ble_eq_true rfl) ?_
  unfold f_x_takeWord at hf
  refine XR.norm (L3 := [some (.ref 7), some (.ref a0), none, none]) rfl ?_
  refine XS.go (s_aloadn rfl rfl rfl) ?_
  refine XS.go (s_getie rfl xf6_29 (LY.lt L0 (by decide)) (LY.k7 L0) (by decide) rfl rfl) ?_
  refine XS.go (XS.lcl (L3 := [some (.ref 7), some (.ref a0), some (.int (hi h 7 5)), none]) (s_istoren rfl rfl (Nat.le_of_ble_eq_true rfl)) rfl) ?_
  exact XR.forget (L2 := [some (.ref 7), some (.ref a0), some (.int (hi h 7 5)), none]) ⟨rfl, ⟨rfl, ⟨rfl, trivial⟩⟩⟩ (kb_x_takeWord_5 L0 hf)
def b_x_takeOne_89 (y1 : Int32) (h : XH) : Option (Int32 × XH) := (Option.bind (f_x_keep y1 ((hi h 7 5) - 1) (0 : Int64) (0 : Int64) h) fun r1 => (some (r1.1, r1.2)))
set_option maxRecDepth 20000 in
theorem kb_x_takeOne_89 {l : Launch} {G : XG} {d : Nat} {y1 : Int32} {h : XH} {r : Int32 × XH} (L0 : LY h) (hf : b_x_takeOne_89 y1 h = some r) : XR l G xEX6_takeOne (d + 6) (89, [some (.ref 7), none, none], [(.int y1), (.ref 7)], h) (fun C => ∃ v, xRet xEX6_takeOne C v ∧ (C.2.2.2 = r.2 ∧ v = some (.int r.1)) ∧ LY r.2) := by
  unfold b_x_takeOne_89 at hf
  refine XS.go (s_aloadn rfl rfl rfl) ?_
  refine XS.go (s_getie rfl xf6_29 (LY.lt L0 (by decide)) (LY.k7 L0) (by decide) rfl rfl) ?_
  refine XS.go (s_iconst (v := 1) rfl rfl) ?_
  refine XS.go (s_isub rfl) ?_
  refine XS.go (s_lconst (v := 0) rfl rfl) ?_
  refine XS.go (s_lconst (v := 0) rfl rfl) ?_
  replace hf := xb_some hf
  obtain ⟨r1, e2, hf⟩ := hf
  refine r_callv rfl xvX6_keep xm6_46 (kf_x_keep (d := d) L0 e2) (LY.lt L0 (by decide)) (LY.k7 L0) (by decide) rfl rfl (dl0 (by decide)) (by decide) (Nat.le_of_ble_eq_true rfl) ?_
  rintro _ _ ⟨⟨rfl, rfl⟩, L3⟩
  cases hf
  exact XR.reti rfl rfl (fun hret => ⟨_, hret, ⟨rfl, rfl⟩, L3⟩)
def b_x_takeOne_57 (x1 : Nat) (h : XH) : Option (Int32 × XH) := (Option.bind (f_x_takeWhole x1 h) fun r4 => (some (r4.1, r4.2)))
set_option maxRecDepth 20000 in
theorem kb_x_takeOne_57 {l : Launch} {G : XG} {d : Nat} {x1 : Nat} {h : XH} {r : Int32 × XH} (L0 : LY h) (hf : b_x_takeOne_57 x1 h = some r) : XR l G xEX6_takeOne (d + 6) (57, [some (.ref 7), some (.ref x1), none], [], h) (fun C => ∃ v, xRet xEX6_takeOne C v ∧ (C.2.2.2 = r.2 ∧ v = some (.int r.1)) ∧ LY r.2) := by
  unfold b_x_takeOne_57 at hf
  refine XS.go (s_aloadn rfl rfl rfl) ?_
  refine XS.go (s_aloadn rfl rfl rfl) ?_
  replace hf := xb_some hf
  obtain ⟨r4, e5, hf⟩ := hf
  refine r_callv rfl xvX6_takeWhole xm6_60 (kf_x_takeWhole (d := d) L0 e5) (LY.lt L0 (by decide)) (LY.k7 L0) (by decide) rfl rfl (dl (by decide)) (by decide) (Nat.le_of_ble_eq_true rfl) ?_
  rintro _ _ ⟨⟨rfl, rfl⟩, L6⟩
  cases hf
  exact XR.reti rfl rfl (fun hret => ⟨_, hret, ⟨rfl, rfl⟩, L6⟩)
def f_x_takeOne (a0 : Nat) (h : XH) : Option (Int32 × XH) := (Option.bind (f_x_skipBlanks a0 h) fun r7 => (if a0 < hz r7.2 ∧ hk r7.2 a0 = 1 then (Option.bind (f_b_octetOrNone a0 (hi r7.2 7 5) r7.2) fun r11 => (if ¬ r11.1 = (-1) then (Option.bind (f_x_isLetter r11.1 r11.2) fun r15 => (if r15.1 = 0 then (Option.bind (f_x_isDigit r11.1 r15.2) fun r19 => (if ¬ r19.1 = 0 then (b_x_takeOne_57 a0 r19.2) else (if ¬ r11.1 = 45 then (if (xix 10000027 (UInt32.toInt32 (Int32.toUInt32 r11.1 % 65536))) < 0 then (b_x_takeOne_89 1 (hsi r19.2 7 5 ((hi r19.2 7 5) + 1))) else (b_x_takeOne_89 r11.1 (hsi r19.2 7 5 ((hi r19.2 7 5) + 1)))) else (b_x_takeOne_57 a0 r19.2)))) else (Option.bind (f_x_takeWord a0 r15.2) fun r25 => (some (r25.1, r25.2))))) else (Option.bind (f_x_keep 0 (hi r11.2 7 5) (0 : Int64) (0 : Int64) r11.2) fun r28 => (some (r28.1, r28.2))))) else none))
set_option maxRecDepth 20000 in
theorem kf_x_takeOne {l : Launch} {G : XG} {d : Nat} {a0 : Nat} {h : XH} {r : Int32 × XH} (L0 : LY h) (hf : f_x_takeOne a0 h = some r) : XC l G xEX6_takeOne (d + 6) [.ref 7, .ref a0] h (fun v h2 => (h2 = r.2 ∧ v = some (.int r.1)) ∧ LY r.2) := by
  refine XC.virt xvX6_takeOne (Nat.le_of_ble_eq_true rfl) ?_
  unfold f_x_takeOne at hf
  refine XR.norm (L3 := [some (.ref 7), some (.ref a0), none]) rfl ?_
  refine XS.go (s_aloadn rfl rfl rfl) ?_
  refine XS.go (s_aloadn rfl rfl rfl) ?_
  replace hf := xb_some hf
  obtain ⟨r7, e8, hf⟩ := hf
  refine r_callv rfl xvX6_skipBlanks xm6_36 (kf_x_skipBlanks (d := d) L0 e8) (LY.lt L0 (by decide)) (LY.k7 L0) (by decide) rfl rfl (dl (by decide)) (by decide) (Nat.le_of_ble_eq_true rfl) ?_
  rintro _ _ ⟨⟨rfl, rfl⟩, L9⟩
  refine XS.go (s_aloadn rfl rfl rfl) ?_
  refine XS.go (s_aloadn rfl rfl rfl) ?_
  refine XS.go (s_getie rfl xf6_29 (LY.lt L9 (by decide)) (LY.k7 L9) (by decide) rfl rfl) ?_
  replace hf := xi_none hf
  obtain ⟨qk10, hf⟩ := hf
  replace hf := xb_some hf
  obtain ⟨r11, e12, hf⟩ := hf
  refine r_callv rfl xvX1_octetOrNone xm6_40 (kf_b_octetOrNone (d := d) L9 e12) qk10.1 qk10.2 (by decide) rfl rfl (dl (by decide)) (by decide) (Nat.le_of_ble_eq_true rfl) ?_
  rintro _ _ ⟨⟨rfl, rfl⟩, L13⟩
  refine XS.go (XS.lcl (L3 := [some (.ref 7), some (.ref a0), some (.int r11.1)]) (s_istoren rfl rfl (Nat.le_of_ble_eq_true rfl)) rfl) ?_
  refine XS.go (s_iloadn rfl rfl rfl) ?_
  refine XS.go (s_iconst (v := (-1)) rfl rfl) ?_
  refine r_icmp_ne (tgt := 31) rfl rfl (fun qc14 => ?_) (fun qc14 => ?_)
  · replace hf := xi_pos hf qc14
    refine XS.go (s_iloadn rfl rfl rfl) ?_
    replace hf := xb_some hf
    obtain ⟨r15, e16, hf⟩ := hf
    refine r_calls rfl xsX6_isLetter xm6_50 (kf_x_isLetter (d := d) L13 e16) rfl rfl (dl0 (by decide)) (by decide) (Nat.le_of_ble_eq_true rfl) ?_
    rintro _ _ ⟨⟨rfl, rfl⟩, L17⟩
    refine r_if_eq (tgt := 44) rfl rfl (fun qc18 => ?_) (fun qc18 => ?_)
    · replace hf := xi_pos hf qc18
      refine XS.go (s_iloadn rfl rfl rfl) ?_
      replace hf := xb_some hf
      obtain ⟨r19, e20, hf⟩ := hf
      refine r_calls rfl xsX6_isDigit xm6_57 (kf_x_isDigit (d := d) L17 e20) rfl rfl (dl0 (by decide)) (by decide) (Nat.le_of_ble_eq_true rfl) ?_
      rintro _ _ ⟨⟨rfl, rfl⟩, L21⟩
      refine r_if_ne (tgt := 57) rfl rfl (fun qc22 => ?_) (fun qc22 => ?_)
      · replace hf := xi_pos hf qc22
        exact XR.forget (L2 := [some (.ref 7), some (.ref a0), none]) ⟨rfl, ⟨rfl, trivial⟩⟩ (kb_x_takeOne_57 L21 hf)
      · replace hf := xi_neg hf qc22
        refine XS.go (s_iloadn rfl rfl rfl) ?_
        refine XS.go (s_bipush (v := 45) rfl rfl) ?_
        refine r_icmp_ne (tgt := 63) rfl rfl (fun qc23 => ?_) (fun qc23 => ?_)
        · replace hf := xi_pos hf qc23
          refine XS.go (s_aloadn rfl rfl rfl) ?_
          refine XS.go (s_dup rfl rfl) ?_
          refine XS.go (s_getie rfl xf6_29 (LY.lt L21 (by decide)) (LY.k7 L21) (by decide) rfl rfl) ?_
          refine XS.go (s_iconst (v := 1) rfl rfl) ?_
          refine XS.go (s_iadd rfl) ?_
          refine XS.go (s_puti rfl xf6_29 (LY.lt L21 (by decide)) (LY.k7 L21) (by decide) rfl (Or.inl rfl)) ?_
          refine XS.go (s_aloadn rfl rfl rfl) ?_
          refine XS.go (s_ldcs (i := 17) rfl rfl rfl) ?_
          refine XS.go (s_iloadn rfl rfl rfl) ?_
          refine XS.go (s_i2c rfl) ?_
          refine r_callvA rfl xvJ0_indexOf rfl xj6_65 (kS_ix (d := d) (by decide)) (by decide) rfl rfl (dl (by decide)) (by decide) (Nat.le_of_ble_eq_true rfl) ?_
          rintro _ _ ⟨rfl, rfl⟩
          refine r_if_lt (tgt := 88) rfl rfl (fun qc24 => ?_) (fun qc24 => ?_)
          · replace hf := xi_pos hf qc24
            refine XS.go (s_iconst (v := 1) rfl rfl) ?_
            exact XR.forget (L2 := [some (.ref 7), none, none]) ⟨rfl, trivial⟩ (kb_x_takeOne_89 (by simp only [LY_si, LY_sj]; exact L21) hf)
          · replace hf := xi_neg hf qc24
            refine XS.go (s_iloadn rfl rfl rfl) ?_
            refine XS.go (s_goto (tgt := 89) rfl rfl) ?_
            exact XR.forget (L2 := [some (.ref 7), none, none]) ⟨rfl, trivial⟩ (kb_x_takeOne_89 (by simp only [LY_si, LY_sj]; exact L21) hf)
        · replace hf := xi_neg hf qc23
          exact XR.forget (L2 := [some (.ref 7), some (.ref a0), none]) ⟨rfl, ⟨rfl, trivial⟩⟩ (kb_x_takeOne_57 L21 hf)
    · replace hf := xi_neg hf qc18
      refine XS.go (s_aloadn rfl rfl rfl) ?_
      refine XS.go (s_aloadn rfl rfl rfl) ?_
      replace hf := xb_some hf
      obtain ⟨r25, e26, hf⟩ := hf
      refine r_callv rfl xvX6_takeWord xm6_54 (kf_x_takeWord (d := d) L17 e26) (LY.lt L17 (by decide)) (LY.k7 L17) (by decide) rfl rfl (dl (by decide)) (by decide) (Nat.le_of_ble_eq_true rfl) ?_
      rintro _ _ ⟨⟨rfl, rfl⟩, L27⟩
      cases hf
      exact XR.reti rfl rfl (fun hret => ⟨_, hret, ⟨rfl, rfl⟩, L27⟩)
  · replace hf := xi_neg hf qc14
    refine XS.go (s_aloadn rfl rfl rfl) ?_
    refine XS.go (s_iconst (v := 0) rfl rfl) ?_
    refine XS.go (s_aloadn rfl rfl rfl) ?_
    refine XS.go (s_getie rfl xf6_29 (LY.lt L13 (by decide)) (LY.k7 L13) (by decide) rfl rfl) ?_
    refine XS.go (s_lconst (v := 0) rfl rfl) ?_
    refine XS.go (s_lconst (v := 0) rfl rfl) ?_
    replace hf := xb_some hf
    obtain ⟨r28, e29, hf⟩ := hf
    refine r_callv rfl xvX6_keep xm6_46 (kf_x_keep (d := d) L13 e29) (LY.lt L13 (by decide)) (LY.k7 L13) (by decide) rfl rfl (dl0 (by decide)) (by decide) (Nat.le_of_ble_eq_true rfl) ?_
    rintro _ _ ⟨⟨rfl, rfl⟩, L30⟩
    cases hf
    exact XR.reti rfl rfl (fun hret => ⟨_, hret, ⟨rfl, rfl⟩, L30⟩)
def b_x_takeAll_48 (K14 : Nat → Int32 → Int32 → XH → Option (Unit × XH)) (x1 : Nat) (x3 : Int32) (y0 : Int32) (h : XH) : Option (Unit × XH) := (K14 x1 y0 (x3 + 1) h)
set_option maxRecDepth 20000 in
theorem kb_x_takeAll_48 {l : Launch} {G : XG} {d : Nat} {K14 : Nat → Int32 → Int32 → XH → Option (Unit × XH)} {x1 : Nat} {x3 : Int32} {y0 : Int32} {h : XH} {r : Unit × XH} (hK14 : ∀ (x1 : Nat) (x2 : Int32) (x3 : Int32) (h : XH), LY h → K14 x1 x2 x3 h = some r → XR l G xEX6_takeAll (d + 7) (14, [some (.ref 7), some (.ref x1), some (.int x2), some (.int x3), none], [], h) (fun C => ∃ v, xRet xEX6_takeAll C v ∧ (C.2.2.2 = r.2 ∧ v = none) ∧ LY r.2)) (L0 : LY h) (hf : b_x_takeAll_48 K14 x1 x3 y0 h = some r) : XR l G xEX6_takeAll (d + 7) (48, [some (.ref 7), some (.ref x1), none, some (.int x3), none], [(.int y0)], h) (fun C => ∃ v, xRet xEX6_takeAll C v ∧ (C.2.2.2 = r.2 ∧ v = none) ∧ LY r.2) := by
  unfold b_x_takeAll_48 at hf
  refine XS.go (XS.lcl (L3 := [some (.ref 7), some (.ref x1), some (.int y0), some (.int x3), none]) (s_istoren rfl rfl (Nat.le_of_ble_eq_true rfl)) rfl) ?_
  refine XS.go (XS.lcl (L3 := [some (.ref 7), some (.ref x1), some (.int y0), some (.int (x3 + 1)), none]) (s_inc rfl rfl (Nat.le_of_ble_eq_true rfl)) rfl) ?_
  refine XS.go (s_goto (tgt := 14) rfl rfl) ?_
  exact XR.forget (L2 := [some (.ref 7), some (.ref x1), some (.int y0), some (.int (x3 + 1)), none]) ⟨rfl, ⟨rfl, ⟨rfl, ⟨rfl, trivial⟩⟩⟩⟩ (hK14 x1 y0 (x3 + 1) _ L0 hf)
def b_x_takeAll_43 (K14 : Nat → Int32 → Int32 → XH → Option (Unit × XH)) (x1 : Nat) (x3 : Int32) (h : XH) : Option (Unit × XH) := (b_x_takeAll_48 K14 x1 x3 1 h)
set_option maxRecDepth 20000 in
theorem kb_x_takeAll_43 {l : Launch} {G : XG} {d : Nat} {K14 : Nat → Int32 → Int32 → XH → Option (Unit × XH)} {x1 : Nat} {x3 : Int32} {h : XH} {r : Unit × XH} (hK14 : ∀ (x1 : Nat) (x2 : Int32) (x3 : Int32) (h : XH), LY h → K14 x1 x2 x3 h = some r → XR l G xEX6_takeAll (d + 7) (14, [some (.ref 7), some (.ref x1), some (.int x2), some (.int x3), none], [], h) (fun C => ∃ v, xRet xEX6_takeAll C v ∧ (C.2.2.2 = r.2 ∧ v = none) ∧ LY r.2)) (L0 : LY h) (hf : b_x_takeAll_43 K14 x1 x3 h = some r) : XR l G xEX6_takeAll (d + 7) (43, [some (.ref 7), some (.ref x1), none, some (.int x3), none], [], h) (fun C => ∃ v, xRet xEX6_takeAll C v ∧ (C.2.2.2 = r.2 ∧ v = none) ∧ LY r.2) := by
  unfold b_x_takeAll_43 at hf
  refine XS.go (s_iconst (v := 1) rfl rfl) ?_
  refine XS.go (s_goto (tgt := 48) rfl rfl) ?_
  exact XR.forget (L2 := [some (.ref 7), some (.ref x1), none, some (.int x3), none]) ⟨rfl, ⟨rfl, ⟨rfl, trivial⟩⟩⟩ (kb_x_takeAll_48 hK14 L0 hf)
def s_x_takeAll_14 (K14 : Nat → Int32 → Int32 → XH → Option (Unit × XH)) (x1 : Nat) (x2 : Int32) (x3 : Int32) (h : XH) : Option (Unit × XH) := (if ¬ x2 = 0 then (some ((), h)) else (if 4000 < x3 then (some ((), h)) else (Option.bind (f_x_takeOne x1 h) fun r3 => (if r3.1 = 0 then (b_x_takeAll_43 K14 x1 x3 r3.2) else (if ¬ r3.1 = 1 then (b_x_takeAll_48 K14 x1 x3 0 r3.2) else (b_x_takeAll_43 K14 x1 x3 r3.2))))))
set_option maxRecDepth 20000 in
theorem ks_x_takeAll_14 {l : Launch} {G : XG} {d : Nat} {K14 : Nat → Int32 → Int32 → XH → Option (Unit × XH)} {x1 : Nat} {x2 : Int32} {x3 : Int32} {h : XH} {r : Unit × XH} (hK14 : ∀ (x1 : Nat) (x2 : Int32) (x3 : Int32) (h : XH), LY h → K14 x1 x2 x3 h = some r → XR l G xEX6_takeAll (d + 7) (14, [some (.ref 7), some (.ref x1), some (.int x2), some (.int x3), none], [], h) (fun C => ∃ v, xRet xEX6_takeAll C v ∧ (C.2.2.2 = r.2 ∧ v = none) ∧ LY r.2)) (L0 : LY h) (hf : s_x_takeAll_14 K14 x1 x2 x3 h = some r) : XR l G xEX6_takeAll (d + 7) (14, [some (.ref 7), some (.ref x1), some (.int x2), some (.int x3), none], [], h) (fun C => ∃ v, xRet xEX6_takeAll C v ∧ (C.2.2.2 = r.2 ∧ v = none) ∧ LY r.2) := by
  unfold s_x_takeAll_14 at hf
  refine XS.go (s_iloadn rfl rfl rfl) ?_
  refine r_if_ne (tgt := 55) rfl rfl (fun qc1 => ?_) (fun qc1 => ?_)
  · replace hf := xi_pos hf qc1
    cases hf
    exact XR.retv rfl rfl (fun hret => ⟨_, hret, ⟨rfl, rfl⟩, L0⟩)
  · replace hf := xi_neg hf qc1
    refine XS.go (s_iloadn rfl rfl rfl) ?_
    refine XS.go (s_sipush (v := 4000) rfl rfl) ?_
    refine r_icmp_gt (tgt := 55) rfl rfl (fun qc2 => ?_) (fun qc2 => ?_)
    · replace hf := xi_pos hf qc2
      cases hf
      exact XR.retv rfl rfl (fun hret => ⟨_, hret, ⟨rfl, rfl⟩, L0⟩)
    · replace hf := xi_neg hf qc2
      refine XS.go (s_aloadn rfl rfl rfl) ?_
      refine XS.go (s_aloadn rfl rfl rfl) ?_
      replace hf := xb_some hf
      obtain ⟨r3, e4, hf⟩ := hf
      refine r_callv rfl xvX6_takeOne xm6_32 (kf_x_takeOne (d := d) L0 e4) (LY.lt L0 (by decide)) (LY.k7 L0) (by decide) rfl rfl (dl (by decide)) (by decide) (Nat.le_of_ble_eq_true rfl) ?_
      rintro _ _ ⟨⟨rfl, rfl⟩, L5⟩
      refine XS.go (XS.lcl (L3 := [some (.ref 7), some (.ref x1), some (.int x2), some (.int x3), some (.int r3.1)]) (s_istore rfl (Nat.le_of_ble_eq_true rfl)) rfl) ?_
      refine XS.go (s_iload rfl rfl) ?_
      refine r_if_eq (tgt := 43) rfl rfl (fun qc6 => ?_) (fun qc6 => ?_)
      · replace hf := xi_pos hf qc6
        exact XR.forget (L2 := [some (.ref 7), some (.ref x1), none, some (.int x3), none]) ⟨rfl, ⟨rfl, ⟨rfl, trivial⟩⟩⟩ (kb_x_takeAll_43 hK14 L5 hf)
      · replace hf := xi_neg hf qc6
        refine XS.go (s_iload rfl rfl) ?_
        refine XS.go (s_iconst (v := 1) rfl rfl) ?_
        refine r_icmp_ne (tgt := 47) rfl rfl (fun qc7 => ?_) (fun qc7 => ?_)
        · replace hf := xi_pos hf qc7
          refine XS.go (s_iconst (v := 0) rfl rfl) ?_
          exact XR.forget (L2 := [some (.ref 7), some (.ref x1), none, some (.int x3), none]) ⟨rfl, ⟨rfl, ⟨rfl, trivial⟩⟩⟩ (kb_x_takeAll_48 hK14 L5 hf)
        · replace hf := xi_neg hf qc7
          exact XR.forget (L2 := [some (.ref 7), some (.ref x1), none, some (.int x3), none]) ⟨rfl, ⟨rfl, ⟨rfl, trivial⟩⟩⟩ (kb_x_takeAll_43 hK14 L5 hf)
def b_x_takeAll_14 : Nat → Nat → Int32 → Int32 → XH → Option (Unit × XH)
  | 0, _, _, _, _ => none
  | n + 1, x1, x2, x3, h => s_x_takeAll_14 (b_x_takeAll_14 n) x1 x2 x3 h
theorem kb_x_takeAll_14 {l : Launch} {G : XG} {d : Nat} {n : Nat} {x1 : Nat} {x2 : Int32} {x3 : Int32} {h : XH} {r : Unit × XH} (L0 : LY h) (hf : b_x_takeAll_14 n x1 x2 x3 h = some r) : XR l G xEX6_takeAll (d + 7) (14, [some (.ref 7), some (.ref x1), some (.int x2), some (.int x3), none], [], h) (fun C => ∃ v, xRet xEX6_takeAll C v ∧ (C.2.2.2 = r.2 ∧ v = none) ∧ LY r.2) := by
  induction n generalizing x1 x2 x3 h with
  | zero => cases hf
  | succ n ih => exact ks_x_takeAll_14 (fun x1 x2 x3 h L0 hf => ih (h := h) (x1 := x1) (x2 := x2) (x3 := x3) L0 hf) L0 hf
def f_x_takeAll (a0 : Nat) (h : XH) : Option (Unit × XH) := (b_x_takeAll_14 100000 a0 0 0 (hsi (hsi h 7 4 0) 7 5 0))
set_option maxRecDepth 20000 in
theorem kf_x_takeAll {l : Launch} {G : XG} {d : Nat} {a0 : Nat} {h : XH} {r : Unit × XH} (L0 : LY h) (hf : f_x_takeAll a0 h = some r) : XC l G xEX6_takeAll (d + 7) [.ref 7, .ref a0] h (fun v h2 => (h2 = r.2 ∧ v = none) ∧ LY r.2) := by
  refine XC.virt xvX6_takeAll (Nat.le_of_ble_eq_true rfl) ?_
  unfold f_x_takeAll at hf
  refine XR.norm (L3 := [some (.ref 7), some (.ref a0), none, none, none]) rfl ?_
  refine XS.go (s_aloadn rfl rfl rfl) ?_
  refine XS.go (s_iconst (v := 0) rfl rfl) ?_
  refine XS.go (s_puti rfl xf6_25 (LY.lt L0 (by decide)) (LY.k7 L0) (by decide) rfl (Or.inl rfl)) ?_
  refine XS.go (s_aloadn rfl rfl rfl) ?_
  refine XS.go (s_iconst (v := 0) rfl rfl) ?_
  refine XS.go (s_puti rfl xf6_29 (LY.lt (by simp only [LY_si, LY_sj]; exact L0) (by decide)) (LY.k7 (by simp only [LY_si, LY_sj]; exact L0)) (by decide) rfl (Or.inl rfl)) ?_
  refine XS.go (s_iconst (v := 0) rfl rfl) ?_
  refine XS.go (XS.lcl (L3 := [some (.ref 7), some (.ref a0), some (.int 0), none, none]) (s_istoren rfl rfl (Nat.le_of_ble_eq_true rfl)) rfl) ?_
  refine XS.go (s_iconst (v := 0) rfl rfl) ?_
  refine XS.go (XS.lcl (L3 := [some (.ref 7), some (.ref a0), some (.int 0), some (.int 0), none]) (s_istoren rfl rfl (Nat.le_of_ble_eq_true rfl)) rfl) ?_
  exact XR.forget (L2 := [some (.ref 7), some (.ref a0), some (.int 0), some (.int 0), none]) ⟨rfl, ⟨rfl, ⟨rfl, ⟨rfl, trivial⟩⟩⟩⟩ (kb_x_takeAll_14 (by simp only [LY_si, LY_sj]; exact L0) hf)
def f_p_init (t : Nat) (a0 : Nat) (a1 : Nat) (h : XH) : Option (Unit × XH) := (if hz h < 1000000 then (if t < hz (hnew h 104 321) ∧ hk (hnew h 104 321) t = 7 then (if 1317 ≤ t then (if t < hz (hsr (hnew h 104 321) t 2 (some (hz h))) ∧ hk (hsr (hnew h 104 321) t 2 (some (hz h))) t = 7 then (if hz (hsi (hsr (hnew h 104 321) t 2 (some (hz h))) t 3 0) < 1000000 then (if (hz (hsi (hsr (hnew h 104 321) t 2 (some (hz h))) t 3 0)) < hz (hnew (hsi (hsr (hnew h 104 321) t 2 (some (hz h))) t 3 0) 3 9) ∧ hk (hnew (hsi (hsr (hnew h 104 321) t 2 (some (hz h))) t 3 0) 3 9) (hz (hsi (hsr (hnew h 104 321) t 2 (some (hz h))) t 3 0)) = 3 then (Option.bind (f_f_init (hz (hsi (hsr (hnew h 104 321) t 2 (some (hz h))) t 3 0)) (hnew (hsi (hsr (hnew h 104 321) t 2 (some (hz h))) t 3 0) 3 9)) fun r10 => (if t < hz r10.2 ∧ hk r10.2 t = 7 then (if 1317 ≤ t then (if t < hz (hsr r10.2 t 4 (some (hz (hsi (hsr (hnew h 104 321) t 2 (some (hz h))) t 3 0)))) ∧ hk (hsr r10.2 t 4 (some (hz (hsi (hsr (hnew h 104 321) t 2 (some (hz h))) t 3 0)))) t = 7 then (if 1317 ≤ t then (if t < hz (hsr (hsi (hsi (hsi (hsi (hsr r10.2 t 4 (some (hz (hsi (hsr (hnew h 104 321) t 2 (some (hz h))) t 3 0)))) t 5 0) t 6 0) t 7 0) t 8 0) t 0 (some a0)) ∧ hk (hsr (hsi (hsi (hsi (hsi (hsr r10.2 t 4 (some (hz (hsi (hsr (hnew h 104 321) t 2 (some (hz h))) t 3 0)))) t 5 0) t 6 0) t 7 0) t 8 0) t 0 (some a0)) t = 7 then (if 1317 ≤ t then (some ((), (hsr (hsr (hsi (hsi (hsi (hsi (hsr r10.2 t 4 (some (hz (hsi (hsr (hnew h 104 321) t 2 (some (hz h))) t 3 0)))) t 5 0) t 6 0) t 7 0) t 8 0) t 0 (some a0)) t 1 (some a1)))) else none) else none) else none) else none) else none) else none)) else none) else none) else none) else none) else none) else none)
set_option maxRecDepth 20000 in
theorem kf_p_init {l : Launch} {G : XG} {d : Nat} {t : Nat} {a0 : Nat} {a1 : Nat} {h : XH} {r : Unit × XH} (L0 : LY h) (hf : f_p_init t a0 a1 h = some r) : XC l G xEX7_init (d + 2) [.ref t, .ref a0, .ref a1] h (fun v h2 => (h2 = r.2 ∧ v = none) ∧ LY r.2) := by
  refine XC.init xnX7_init (Nat.le_of_ble_eq_true rfl) ?_
  unfold f_p_init at hf
  refine XR.norm (L3 := [some (.ref t), some (.ref a0), some (.ref a1)]) rfl ?_
  refine XS.go (s_aloadn rfl rfl rfl) ?_
  refine XS.go (s_objInit rfl (lg_5 1 rfl rfl) (lg_1 33 rfl rfl) (lg_1 34 rfl rfl) (dl1 (by decide)) (Nat.le_of_ble_eq_true rfl)) ?_
  refine XS.go (s_aloadn rfl rfl rfl) ?_
  refine XS.go (s_sipush (v := 321) rfl rfl) ?_
  replace hf := xi_none hf
  obtain ⟨qk1, hf⟩ := hf
  have L2 : LY (hnew h 104 321) := LY.new L0 qk1
  refine XS.go (s_newf rfl (lg_5 2 rfl rfl) (N := 321) (by decide) rfl (by decide) qk1) ?_
  replace hf := xi_none hf
  obtain ⟨qk3, hf⟩ := hf
  replace hf := xi_none hf
  obtain ⟨qk4, hf⟩ := hf
  have L5 : LY (hsr (hnew h 104 321) t 2 (some (hz h))) := LY.srv L2 qk4
  refine XS.go (s_putr rfl xf7_13 qk3.1 qk3.2 (by decide) rfl (Or.inr ⟨rfl, rfl⟩)) ?_
  refine XS.go (s_aloadn rfl rfl rfl) ?_
  refine XS.go (s_iconst (v := 0) rfl rfl) ?_
  replace hf := xi_none hf
  obtain ⟨qk6, hf⟩ := hf
  refine XS.go (s_puti rfl xf7_17 qk6.1 qk6.2 (by decide) rfl (Or.inl rfl)) ?_
  refine XS.go (s_aloadn rfl rfl rfl) ?_
  replace hf := xi_none hf
  obtain ⟨qk7, hf⟩ := hf
  have L8 : LY (hnew (hsi (hsr (hnew h 104 321) t 2 (some (hz h))) t 3 0) 3 9) := LY.new (by simp only [LY_si, LY_sj]; exact L5) qk7
  refine XS.go (s_new (ci := 3) rfl (lg_5 2 rfl rfl) (by decide) rfl qk7) ?_
  refine XS.go (s_dup rfl rfl) ?_
  replace hf := xi_none hf
  obtain ⟨qk9, hf⟩ := hf
  replace hf := xb_some hf
  obtain ⟨r10, e11, hf⟩ := hf
  refine r_callin rfl xnX3_init rfl (List.mem_of_getElem? (i := 12) rfl) (kf_f_init (d := d) L8 e11) rfl rfl (dl (by decide)) (by decide) (Nat.le_of_ble_eq_true rfl) ?_
  rintro _ _ ⟨⟨rfl, rfl⟩, L12⟩
  replace hf := xi_none hf
  obtain ⟨qk13, hf⟩ := hf
  replace hf := xi_none hf
  obtain ⟨qk14, hf⟩ := hf
  have L15 : LY (hsr r10.2 t 4 (some (hz (hsi (hsr (hnew h 104 321) t 2 (some (hz h))) t 3 0)))) := LY.srv L12 qk14
  refine XS.go (s_putr rfl xf7_22 qk13.1 qk13.2 (by decide) rfl (Or.inr ⟨rfl, rfl⟩)) ?_
  refine XS.go (s_aloadn rfl rfl rfl) ?_
  refine XS.go (s_iconst (v := 0) rfl rfl) ?_
  replace hf := xi_none hf
  obtain ⟨qk16, hf⟩ := hf
  refine XS.go (s_puti rfl xf7_26 qk16.1 qk16.2 (by decide) rfl (Or.inl rfl)) ?_
  refine XS.go (s_aloadn rfl rfl rfl) ?_
  refine XS.go (s_iconst (v := 0) rfl rfl) ?_
  refine XS.go (s_puti rfl xf7_31 (show t < hz _ by simp only [hz_hsi, hk_hsi, hz_hsj, hk_hsj]; exact qk16.1) (by simp only [hz_hsi, hk_hsi, hz_hsj, hk_hsj]; exact qk16.2) (by decide) rfl (Or.inl rfl)) ?_
  refine XS.go (s_aloadn rfl rfl rfl) ?_
  refine XS.go (s_iconst (v := 0) rfl rfl) ?_
  refine XS.go (s_puti rfl xf7_34 (show t < hz _ by simp only [hz_hsi, hk_hsi, hz_hsj, hk_hsj]; exact qk16.1) (by simp only [hz_hsi, hk_hsi, hz_hsj, hk_hsj]; exact qk16.2) (by decide) rfl (Or.inl rfl)) ?_
  refine XS.go (s_aloadn rfl rfl rfl) ?_
  refine XS.go (s_iconst (v := 0) rfl rfl) ?_
  refine XS.go (s_puti rfl xf7_37 (show t < hz _ by simp only [hz_hsi, hk_hsi, hz_hsj, hk_hsj]; exact qk16.1) (by simp only [hz_hsi, hk_hsi, hz_hsj, hk_hsj]; exact qk16.2) (by decide) rfl (Or.inl rfl)) ?_
  refine XS.go (s_aloadn rfl rfl rfl) ?_
  refine XS.go (s_aloadn rfl rfl rfl) ?_
  replace hf := xi_none hf
  obtain ⟨qk17, hf⟩ := hf
  have L18 : LY (hsr (hsi (hsi (hsi (hsi (hsr r10.2 t 4 (some (hz (hsi (hsr (hnew h 104 321) t 2 (some (hz h))) t 3 0)))) t 5 0) t 6 0) t 7 0) t 8 0) t 0 (some a0)) := LY.srv (by simp only [LY_si, LY_sj]; exact L15) qk17
  refine XS.go (s_putr rfl xf7_40 (show t < hz _ by simp only [hz_hsi, hk_hsi, hz_hsj, hk_hsj]; exact qk16.1) (by simp only [hz_hsi, hk_hsi, hz_hsj, hk_hsj]; exact qk16.2) (by decide) rfl (Or.inr ⟨rfl, rfl⟩)) ?_
  refine XS.go (s_aloadn rfl rfl rfl) ?_
  refine XS.go (s_aloadn rfl rfl rfl) ?_
  replace hf := xi_none hf
  obtain ⟨qk19, hf⟩ := hf
  replace hf := xi_none hf
  obtain ⟨qk20, hf⟩ := hf
  have L21 : LY (hsr (hsr (hsi (hsi (hsi (hsi (hsr r10.2 t 4 (some (hz (hsi (hsr (hnew h 104 321) t 2 (some (hz h))) t 3 0)))) t 5 0) t 6 0) t 7 0) t 8 0) t 0 (some a0)) t 1 (some a1)) := LY.srv L18 qk20
  refine XS.go (s_putr rfl xf7_44 qk19.1 qk19.2 (by decide) rfl (Or.inr ⟨rfl, rfl⟩)) ?_
  cases hf
  exact XR.retv rfl rfl (fun hret => ⟨_, hret, ⟨rfl, rfl⟩, L21⟩)
def b_p_numberAllSlots_36 (K2 : Nat → Int32 → XH → Option (Unit × XH)) (x0 : Nat) (x1 : Int32) (h : XH) : Option (Unit × XH) := (K2 x0 (x1 + 1) h)
set_option maxRecDepth 20000 in
theorem kb_p_numberAllSlots_36 {l : Launch} {G : XG} {d : Nat} {K2 : Nat → Int32 → XH → Option (Unit × XH)} {x0 : Nat} {x1 : Int32} {h : XH} {r : Unit × XH} (hK2 : ∀ (x0 : Nat) (x1 : Int32) (h : XH), LY h → K2 x0 x1 h = some r → XR l G xEX7_numberAllSlots (d + 1) (2, [some (.ref x0), some (.int x1), none], [], h) (fun C => ∃ v, xRet xEX7_numberAllSlots C v ∧ (C.2.2.2 = r.2 ∧ v = none) ∧ LY r.2)) (L0 : LY h) (hf : b_p_numberAllSlots_36 K2 x0 x1 h = some r) : XR l G xEX7_numberAllSlots (d + 1) (36, [some (.ref x0), some (.int x1), none], [], h) (fun C => ∃ v, xRet xEX7_numberAllSlots C v ∧ (C.2.2.2 = r.2 ∧ v = none) ∧ LY r.2) := by
  unfold b_p_numberAllSlots_36 at hf
  refine XS.go (XS.lcl (L3 := [some (.ref x0), some (.int (x1 + 1)), none]) (s_inc rfl rfl (Nat.le_of_ble_eq_true rfl)) rfl) ?_
  refine XS.go (s_goto (tgt := 2) rfl rfl) ?_
  exact XR.forget (L2 := [some (.ref x0), some (.int (x1 + 1)), none]) ⟨rfl, ⟨rfl, trivial⟩⟩ (hK2 x0 (x1 + 1) _ L0 hf)
def s_p_numberAllSlots_2 (K2 : Nat → Int32 → XH → Option (Unit × XH)) (x0 : Nat) (x1 : Int32) (h : XH) : Option (Unit × XH) := (if x0 < hz h ∧ hk h x0 = 7 then (Option.bind (hr h x0 1) fun b2 => (if b2 < hz h ∧ hk h b2 = 9 then (Option.bind (hr h b2 1) fun b5 => (if b5 < hz h ∧ hk h b5 = 4 then (if (hi h b5 1) ≤ x1 then (some ((), h)) else (Option.bind (f_g_at b5 x1 h) fun r9 => (Option.elim (r9.1) (b_p_numberAllSlots_36 K2 x0 x1 r9.2) fun b13 => (if b13 < hz r9.2 ∧ hk r9.2 b13 = 2 then (Option.bind (f_d_numberSlots b13 r9.2) fun r15 => (b_p_numberAllSlots_36 K2 x0 x1 r15.2)) else none)))) else none)) else none)) else none)
set_option maxRecDepth 20000 in
theorem ks_p_numberAllSlots_2 {l : Launch} {G : XG} {d : Nat} {K2 : Nat → Int32 → XH → Option (Unit × XH)} {x0 : Nat} {x1 : Int32} {h : XH} {r : Unit × XH} (hK2 : ∀ (x0 : Nat) (x1 : Int32) (h : XH), LY h → K2 x0 x1 h = some r → XR l G xEX7_numberAllSlots (d + 1) (2, [some (.ref x0), some (.int x1), none], [], h) (fun C => ∃ v, xRet xEX7_numberAllSlots C v ∧ (C.2.2.2 = r.2 ∧ v = none) ∧ LY r.2)) (L0 : LY h) (hf : s_p_numberAllSlots_2 K2 x0 x1 h = some r) : XR l G xEX7_numberAllSlots (d + 1) (2, [some (.ref x0), some (.int x1), none], [], h) (fun C => ∃ v, xRet xEX7_numberAllSlots C v ∧ (C.2.2.2 = r.2 ∧ v = none) ∧ LY r.2) := by
  unfold s_p_numberAllSlots_2 at hf
  refine XS.go (s_iloadn rfl rfl rfl) ?_
  refine XS.go (s_aloadn rfl rfl rfl) ?_
  replace hf := xi_none hf
  obtain ⟨qk1, hf⟩ := hf
  replace hf := xb_some hf
  obtain ⟨b2, qr3, hf⟩ := hf
  refine XS.go (s_getr rfl xf7_44 qk1.1 qk1.2 (by decide) rfl qr3) ?_
  replace hf := xi_none hf
  obtain ⟨qk4, hf⟩ := hf
  replace hf := xb_some hf
  obtain ⟨b5, qr6, hf⟩ := hf
  refine XS.go (s_getr rfl xf7_97 qk4.1 qk4.2 (by decide) rfl qr6) ?_
  replace hf := xi_none hf
  obtain ⟨qk7, hf⟩ := hf
  refine XS.go (s_getie rfl xf7_251 qk7.1 qk7.2 (by decide) rfl rfl) ?_
  refine r_icmp_ge (tgt := 42) rfl rfl (fun qc8 => ?_) (fun qc8 => ?_)
  · replace hf := xi_pos hf qc8
    cases hf
    exact XR.retv rfl rfl (fun hret => ⟨_, hret, ⟨rfl, rfl⟩, L0⟩)
  · replace hf := xi_neg hf qc8
    refine XS.go (s_aloadn rfl rfl rfl) ?_
    refine XS.go (s_getr rfl xf7_44 qk1.1 qk1.2 (by decide) rfl qr3) ?_
    refine XS.go (s_getr rfl xf7_97 qk4.1 qk4.2 (by decide) rfl qr6) ?_
    refine XS.go (s_iloadn rfl rfl rfl) ?_
    replace hf := xb_some hf
    obtain ⟨r9, e10, hf⟩ := hf
    refine r_callv rfl xvX4_at xm7_195 (kf_g_at (d := d) L0 e10) qk7.1 qk7.2 (by decide) rfl rfl (dl0 (by decide)) (by decide) (Nat.le_of_ble_eq_true rfl) ?_
    rintro _ _ ⟨⟨rfl, rfl⟩, L11⟩
    refine XS.go (XS.lcl (L3 := [some (.ref x0), some (.int x1), some (va_rf r9.1)]) (s_astorenO rfl rfl (Nat.le_of_ble_eq_true rfl)) rfl) ?_
    refine XS.go (s_aloadnO rfl rfl rfl) ?_
    refine r_ifnull (tgt := 36) rfl rfl (fun qn12 => ?_) (fun b13 qn12 => ?_)
    · replace hf := xo_none hf qn12
      try rw [qn12]
      exact XR.forget (L2 := [some (.ref x0), some (.int x1), none]) ⟨rfl, ⟨rfl, trivial⟩⟩ (kb_p_numberAllSlots_36 hK2 L11 hf)
    · replace hf := xo_some hf qn12
      try rw [qn12]
      refine XS.go (s_aloadn rfl rfl rfl) ?_
      replace hf := xi_none hf
      obtain ⟨qk14, hf⟩ := hf
      replace hf := xb_some hf
      obtain ⟨r15, e16, hf⟩ := hf
      refine r_callv rfl xvX2_numberSlots xm7_254 (kf_d_numberSlots (d := d) L11 e16) qk14.1 qk14.2 (by decide) rfl rfl (dl0 (by decide)) (by decide) (Nat.le_of_ble_eq_true rfl) ?_
      rintro _ _ ⟨⟨rfl, rfl⟩, L17⟩
      exact XR.forget (L2 := [some (.ref x0), some (.int x1), none]) ⟨rfl, ⟨rfl, trivial⟩⟩ (kb_p_numberAllSlots_36 hK2 L17 hf)
def b_p_numberAllSlots_2 : Nat → Nat → Int32 → XH → Option (Unit × XH)
  | 0, _, _, _ => none
  | n + 1, x0, x1, h => s_p_numberAllSlots_2 (b_p_numberAllSlots_2 n) x0 x1 h
theorem kb_p_numberAllSlots_2 {l : Launch} {G : XG} {d : Nat} {n : Nat} {x0 : Nat} {x1 : Int32} {h : XH} {r : Unit × XH} (L0 : LY h) (hf : b_p_numberAllSlots_2 n x0 x1 h = some r) : XR l G xEX7_numberAllSlots (d + 1) (2, [some (.ref x0), some (.int x1), none], [], h) (fun C => ∃ v, xRet xEX7_numberAllSlots C v ∧ (C.2.2.2 = r.2 ∧ v = none) ∧ LY r.2) := by
  induction n generalizing x0 x1 h with
  | zero => cases hf
  | succ n ih => exact ks_p_numberAllSlots_2 (fun x0 x1 h L0 hf => ih (h := h) (x0 := x0) (x1 := x1) L0 hf) L0 hf
def f_p_numberAllSlots (t : Nat) (h : XH) : Option (Unit × XH) := (b_p_numberAllSlots_2 100000 t 0 h)
set_option maxRecDepth 20000 in
theorem kf_p_numberAllSlots {l : Launch} {G : XG} {d : Nat} {t : Nat} {h : XH} {r : Unit × XH} (L0 : LY h) (hf : f_p_numberAllSlots t h = some r) : XC l G xEX7_numberAllSlots (d + 1) [.ref t] h (fun v h2 => (h2 = r.2 ∧ v = none) ∧ LY r.2) := by
  refine XC.virt xvX7_numberAllSlots (Nat.le_of_ble_eq_true rfl) ?_
  unfold f_p_numberAllSlots at hf
  refine XR.norm (L3 := [some (.ref t), none, none]) rfl ?_
  refine XS.go (s_iconst (v := 0) rfl rfl) ?_
  refine XS.go (XS.lcl (L3 := [some (.ref t), some (.int 0), none]) (s_istoren rfl rfl (Nat.le_of_ble_eq_true rfl)) rfl) ?_
  exact XR.forget (L2 := [some (.ref t), some (.int 0), none]) ⟨rfl, ⟨rfl, trivial⟩⟩ (kb_p_numberAllSlots_2 L0 hf)
def f_p_advance (t : Nat) (h : XH) : Option (Unit × XH) := (if t < hz h ∧ hk h t = 7 then (Option.bind (hr h t 0) fun b2 => (if b2 = 7 then (Option.bind (f_x_kind ((hi h t 5) + 1) (hsi h t 5 ((hi h t 5) + 1))) fun r5 => (if t < hz r5.2 ∧ hk r5.2 t = 7 then (some ((), (hsi r5.2 t 6 r5.1))) else none)) else none)) else none)
set_option maxRecDepth 20000 in
theorem kf_p_advance {l : Launch} {G : XG} {d : Nat} {t : Nat} {h : XH} {r : Unit × XH} (L0 : LY h) (hf : f_p_advance t h = some r) : XC l G xEX7_advance (d + 1) [.ref t] h (fun v h2 => (h2 = r.2 ∧ v = none) ∧ LY r.2) := by
  refine XC.virt xvX7_advance (Nat.le_of_ble_eq_true rfl) ?_
  unfold f_p_advance at hf
  refine XR.norm (L3 := [some (.ref t)]) rfl ?_
  refine XS.go (s_aloadn rfl rfl rfl) ?_
  refine XS.go (s_dup rfl rfl) ?_
  replace hf := xi_none hf
  obtain ⟨qk1, hf⟩ := hf
  refine XS.go (s_getie rfl xf7_26 qk1.1 qk1.2 (by decide) rfl rfl) ?_
  refine XS.go (s_iconst (v := 1) rfl rfl) ?_
  refine XS.go (s_iadd rfl) ?_
  refine XS.go (s_puti rfl xf7_26 qk1.1 qk1.2 (by decide) rfl (Or.inl rfl)) ?_
  refine XS.go (s_aloadn rfl rfl rfl) ?_
  refine XS.go (s_aloadn rfl rfl rfl) ?_
  replace hf := xb_some hf
  obtain ⟨b2, qr3, hf⟩ := hf
  refine XS.go (s_getr rfl xf7_40 (show t < hz _ by simp only [hz_hsi, hk_hsi, hz_hsj, hk_hsj]; exact qk1.1) (by simp only [hz_hsi, hk_hsi, hz_hsj, hk_hsj]; exact qk1.2) (by decide) rfl (by simp only [hr_hsi, hr_hsj]; exact qr3)) ?_
  refine XS.go (s_aloadn rfl rfl rfl) ?_
  refine XS.go (s_getie rfl xf7_26 (show t < hz _ by simp only [hz_hsi, hk_hsi, hz_hsj, hk_hsj]; exact qk1.1) (by simp only [hz_hsi, hk_hsi, hz_hsj, hk_hsj]; exact qk1.2) (by decide) rfl hi_hsi_eq) ?_
  replace hf := xi_none hf
  obtain ⟨qk4, hf⟩ := hf
  subst qk4
  replace hf := xb_some hf
  obtain ⟨r5, e6, hf⟩ := hf
  refine r_callv rfl xvX6_kind xm7_53 (kf_x_kind (d := d) (by simp only [LY_si, LY_sj]; exact L0) e6) (LY.lt (by simp only [LY_si, LY_sj]; exact L0) (by decide)) (LY.k7 (by simp only [LY_si, LY_sj]; exact L0)) (by decide) rfl rfl (dl0 (by decide)) (by decide) (Nat.le_of_ble_eq_true rfl) ?_
  rintro _ _ ⟨⟨rfl, rfl⟩, L7⟩
  replace hf := xi_none hf
  obtain ⟨qk8, hf⟩ := hf
  refine XS.go (s_puti rfl xf7_31 qk8.1 qk8.2 (by decide) rfl (Or.inl rfl)) ?_
  cases hf
  exact XR.retv rfl rfl (fun hret => ⟨_, hret, ⟨rfl, rfl⟩, (by simp only [LY_si, LY_sj]; exact L7)⟩)
def b_p_fail_14 (x0 : Nat) (y0 : Nat) (y1 : Int32) (h : XH) : Option (Int32 × XH) := (if y0 < hz h ∧ hk h y0 = 7 then (if x0 < hz h ∧ hk h x0 = 7 then (Option.bind (hr h x0 0) fun b3 => (if b3 = 7 then (Option.bind (f_x_place (hi h x0 5) (hsi h y0 7 y1)) fun r6 => (if x0 < hz r6.2 ∧ hk r6.2 x0 = 7 then (some (0, (hsi r6.2 x0 8 r6.1))) else none)) else none)) else none) else none)
set_option maxRecDepth 20000 in
theorem kb_p_fail_14 {l : Launch} {G : XG} {d : Nat} {x0 : Nat} {y0 : Nat} {y1 : Int32} {h : XH} {r : Int32 × XH} (L0 : LY h) (hf : b_p_fail_14 x0 y0 y1 h = some r) : XR l G xEX7_fail (d + 1) (14, [some (.ref x0), none], [(.int y1), (.ref y0)], h) (fun C => ∃ v, xRet xEX7_fail C v ∧ (C.2.2.2 = r.2 ∧ v = some (.int r.1)) ∧ LY r.2) := by
  unfold b_p_fail_14 at hf
  replace hf := xi_none hf
  obtain ⟨qk1, hf⟩ := hf
  refine XS.go (s_puti rfl xf7_34 qk1.1 qk1.2 (by decide) rfl (Or.inl rfl)) ?_
  refine XS.go (s_aloadn rfl rfl rfl) ?_
  refine XS.go (s_aloadn rfl rfl rfl) ?_
  replace hf := xi_none hf
  obtain ⟨qk2, hf⟩ := hf
  replace hf := xb_some hf
  obtain ⟨b3, qr4, hf⟩ := hf
  refine XS.go (s_getr rfl xf7_40 (show x0 < hz _ by simp only [hz_hsi, hk_hsi, hz_hsj, hk_hsj]; exact qk2.1) (by simp only [hz_hsi, hk_hsi, hz_hsj, hk_hsj]; exact qk2.2) (by decide) rfl (by simp only [hr_hsi, hr_hsj]; exact qr4)) ?_
  refine XS.go (s_aloadn rfl rfl rfl) ?_
  refine XS.go (s_getie rfl xf7_26 (show x0 < hz _ by simp only [hz_hsi, hk_hsi, hz_hsj, hk_hsj]; exact qk2.1) (by simp only [hz_hsi, hk_hsi, hz_hsj, hk_hsj]; exact qk2.2) (by decide) rfl (hi_hsi_nk (by decide))) ?_
  replace hf := xi_none hf
  obtain ⟨qk5, hf⟩ := hf
  subst qk5
  replace hf := xb_some hf
  obtain ⟨r6, e7, hf⟩ := hf
  refine r_callv rfl xvX6_place xm7_75 (kf_x_place (d := d) (by simp only [LY_si, LY_sj]; exact L0) e7) (LY.lt (by simp only [LY_si, LY_sj]; exact L0) (by decide)) (LY.k7 (by simp only [LY_si, LY_sj]; exact L0)) (by decide) rfl rfl (dl0 (by decide)) (by decide) (Nat.le_of_ble_eq_true rfl) ?_
  rintro _ _ ⟨⟨rfl, rfl⟩, L8⟩
  replace hf := xi_none hf
  obtain ⟨qk9, hf⟩ := hf
  refine XS.go (s_puti rfl xf7_37 qk9.1 qk9.2 (by decide) rfl (Or.inl rfl)) ?_
  refine XS.go (s_iconst (v := 0) rfl rfl) ?_
  cases hf
  exact XR.retz rfl rfl (by decide) (fun hret => ⟨_, hret, ⟨rfl, rfl⟩, (by simp only [LY_si, LY_sj]; exact L8)⟩)
def f_p_fail (t : Nat) (a0 : Int32) (h : XH) : Option (Int32 × XH) := (if t < hz h ∧ hk h t = 7 then (if ¬ (hi h t 6) = 1 then (b_p_fail_14 t t a0 h) else (b_p_fail_14 t t 1 h)) else none)
set_option maxRecDepth 20000 in
theorem kf_p_fail {l : Launch} {G : XG} {d : Nat} {t : Nat} {a0 : Int32} {h : XH} {r : Int32 × XH} (L0 : LY h) (hf : f_p_fail t a0 h = some r) : XC l G xEX7_fail (d + 1) [.ref t, .int a0] h (fun v h2 => (h2 = r.2 ∧ v = some (.int r.1)) ∧ LY r.2) := by
  refine XC.virt xvX7_fail (Nat.le_of_ble_eq_true rfl) ?_
  unfold f_p_fail at hf
  refine XR.norm (L3 := [some (.ref t), some (.int a0)]) rfl ?_
  refine XS.go (s_aloadn rfl rfl rfl) ?_
  refine XS.go (s_aloadn rfl rfl rfl) ?_
  replace hf := xi_none hf
  obtain ⟨qk10, hf⟩ := hf
  refine XS.go (s_getie rfl xf7_31 qk10.1 qk10.2 (by decide) rfl rfl) ?_
  refine XS.go (s_iconst (v := 1) rfl rfl) ?_
  refine r_icmp_ne (tgt := 13) rfl rfl (fun qc11 => ?_) (fun qc11 => ?_)
  · replace hf := xi_pos hf qc11
    refine XS.go (s_iloadn rfl rfl rfl) ?_
    exact XR.forget (L2 := [some (.ref t), none]) ⟨rfl, trivial⟩ (kb_p_fail_14 L0 hf)
  · replace hf := xi_neg hf qc11
    refine XS.go (s_iconst (v := 1) rfl rfl) ?_
    refine XS.go (s_goto (tgt := 14) rfl rfl) ?_
    exact XR.forget (L2 := [some (.ref t), none]) ⟨rfl, trivial⟩ (kb_p_fail_14 L0 hf)
def b_s_addTo_56 (x6 : Option Nat) (h : XH) : Option (Option Nat × XH) := (some (x6, h))
set_option maxRecDepth 20000 in
theorem kb_s_addTo_56 {l : Launch} {G : XG} {d : Nat} {x6 : Option Nat} {h : XH} {r : Option Nat × XH} (L0 : LY h) (hf : b_s_addTo_56 x6 h = some r) : XR l G xEX9_addTo (d + 2) (56, [none, none, none, none, none, none, some (va_rf x6)], [], h) (fun C => ∃ v, xRet xEX9_addTo C v ∧ (C.2.2.2 = r.2 ∧ v = some (va_rf r.1)) ∧ LY r.2) := by
  unfold b_s_addTo_56 at hf
  refine XS.go (s_aloadO rfl rfl) ?_
  cases hf
  exact XR.reta (o := x6) rfl rfl (fun hret => ⟨_, hret, ⟨rfl, rfl⟩, L0⟩)
def b_s_addTo_19 (h : XH) : Option (Option Nat × XH) := (some (none, h))
set_option maxRecDepth 20000 in
theorem kb_s_addTo_19 {l : Launch} {G : XG} {d : Nat} {h : XH} {r : Option Nat × XH} (L0 : LY h) (hf : b_s_addTo_19 h = some r) : XR l G xEX9_addTo (d + 2) (19, [none, none, none, none, none, none, none], [], h) (fun C => ∃ v, xRet xEX9_addTo C v ∧ (C.2.2.2 = r.2 ∧ v = some (va_rf r.1)) ∧ LY r.2) := by
  unfold b_s_addTo_19 at hf
  refine XS.go (s_null rfl) ?_
  cases hf
  exact XR.reta (o := none) rfl rfl (fun hret => ⟨_, hret, ⟨rfl, rfl⟩, L0⟩)
def f_s_addTo (t : Nat) (a0 : Nat) (a1 : Int64) (a2 : Int64) (h : XH) : Option (Option Nat × XH) := (if t < hz h ∧ hk h t = 9 then (if (hi h t 4) < 0 then (b_s_addTo_19 h) else (Option.bind (hr h t 3) fun b3 => (if b3 < hz h ∧ hk h b3 = 105 then (if (hi h t 4) < (nI (hn h b3)) then (if a0 < hz h ∧ hk h a0 = 4 then (Option.bind (f_g_add a0 a1 a2 h) fun r8 => (Option.elim (r8.1) (b_s_addTo_56 none r8.2) fun b12 => (if t < hz r8.2 ∧ hk r8.2 t = 9 then (Option.bind (hr r8.2 t 3) fun b14 => (if b14 < hz r8.2 ∧ hk r8.2 b14 = 105 then (if b12 < hz r8.2 ∧ hk r8.2 b12 = 2 then (if 0 ≤ (hi r8.2 t 4) ∧ (hi r8.2 t 4) < nI (hn r8.2 b14) ∧ (hn r8.2 b14) < 2 ^ 31 then (if 1317 ≤ b14 ∨ b14 = 627 ∨ b14 = 1243 then (if t < hz (hsr r8.2 b14 (Int32.toNatClampNeg (hi r8.2 t 4)) (some b12)) ∧ hk (hsr r8.2 b14 (Int32.toNatClampNeg (hi r8.2 t 4)) (some b12)) t = 9 then (b_s_addTo_56 (some b12) (hsi (hsr r8.2 b14 (Int32.toNatClampNeg (hi r8.2 t 4)) (some b12)) t 4 ((hi (hsr r8.2 b14 (Int32.toNatClampNeg (hi r8.2 t 4)) (some b12)) t 4) + 1))) else none) else none) else none) else none) else none)) else none))) else none) else (b_s_addTo_19 h)) else none))) else none)
set_option maxRecDepth 20000 in
theorem kf_s_addTo {l : Launch} {G : XG} {d : Nat} {t : Nat} {a0 : Nat} {a1 : Int64} {a2 : Int64} {h : XH} {r : Option Nat × XH} (L0 : LY h) (hf : f_s_addTo t a0 a1 a2 h = some r) : XC l G xEX9_addTo (d + 2) [.ref t, .ref a0, .long a1, .long a2] h (fun v h2 => (h2 = r.2 ∧ v = some (va_rf r.1)) ∧ LY r.2) := by
  refine XC.virt xvX9_addTo (Nat.le_of_ble_eq_true rfl) ?_
  unfold f_s_addTo at hf
  refine XR.norm (L3 := [some (.ref t), some (.ref a0), some (.long a1), none, some (.long a2), none, none]) rfl ?_
  refine XS.go (s_aloadn rfl rfl rfl) ?_
  replace hf := xi_none hf
  obtain ⟨qk1, hf⟩ := hf
  refine XS.go (s_getie rfl xf9_32 qk1.1 qk1.2 (by decide) rfl rfl) ?_
  refine r_if_lt (tgt := 19) rfl rfl (fun qc2 => ?_) (fun qc2 => ?_)
  · replace hf := xi_pos hf qc2
    exact XR.forget (L2 := [none, none, none, none, none, none, none]) trivial (kb_s_addTo_19 L0 hf)
  · replace hf := xi_neg hf qc2
    refine XS.go (s_aloadn rfl rfl rfl) ?_
    refine XS.go (s_getie rfl xf9_32 qk1.1 qk1.2 (by decide) rfl rfl) ?_
    refine XS.go (s_aloadn rfl rfl rfl) ?_
    replace hf := xb_some hf
    obtain ⟨b3, qr4, hf⟩ := hf
    refine XS.go (s_getr rfl xf9_28 qk1.1 qk1.2 (by decide) rfl qr4) ?_
    replace hf := xi_none hf
    obtain ⟨qk5, hf⟩ := hf
    refine XS.go (s_alene (N := hn h b3) rfl qk5.1 qk5.2 rfl (by decide)) ?_
    refine r_icmp_lt (tgt := 21) rfl rfl (fun qc6 => ?_) (fun qc6 => ?_)
    · replace hf := xi_pos hf qc6
      refine XS.go (s_aloadn rfl rfl rfl) ?_
      refine XS.go (s_lloadn rfl rfl rfl) ?_
      refine XS.go (s_lload rfl rfl) ?_
      replace hf := xi_none hf
      obtain ⟨qk7, hf⟩ := hf
      replace hf := xb_some hf
      obtain ⟨r8, e9, hf⟩ := hf
      refine r_callv rfl xvX4_add xm9_42 (kf_g_add (d := d) L0 e9) qk7.1 qk7.2 (by decide) rfl rfl (dl (by decide)) (by decide) (Nat.le_of_ble_eq_true rfl) ?_
      rintro _ _ ⟨⟨rfl, rfl⟩, L10⟩
      refine XS.go (XS.lcl (L3 := [some (.ref t), some (.ref a0), some (.long a1), none, some (.long a2), none, some (va_rf r8.1)]) (s_astoreO rfl (Nat.le_of_ble_eq_true rfl)) rfl) ?_
      refine XS.go (s_aloadO rfl rfl) ?_
      refine r_ifnull (tgt := 56) rfl rfl (fun qn11 => ?_) (fun b12 qn11 => ?_)
      · replace hf := xo_none hf qn11
        try rw [qn11]
        exact XR.forget (L2 := [none, none, none, none, none, none, some (va_rf none)]) ⟨rfl, trivial⟩ (kb_s_addTo_56 L10 hf)
      · replace hf := xo_some hf qn11
        try rw [qn11]
        refine XS.go (s_aloadn rfl rfl rfl) ?_
        replace hf := xi_none hf
        obtain ⟨qk13, hf⟩ := hf
        replace hf := xb_some hf
        obtain ⟨b14, qr15, hf⟩ := hf
        refine XS.go (s_getr rfl xf9_28 qk13.1 qk13.2 (by decide) rfl qr15) ?_
        refine XS.go (s_aloadn rfl rfl rfl) ?_
        refine XS.go (s_getie rfl xf9_32 qk13.1 qk13.2 (by decide) rfl rfl) ?_
        refine XS.go (s_aload rfl rfl) ?_
        replace hf := xi_none hf
        obtain ⟨qk16, hf⟩ := hf
        replace hf := xi_none hf
        obtain ⟨qk17, hf⟩ := hf
        replace hf := xi_none hf
        obtain ⟨qk18, hf⟩ := hf
        replace hf := xi_none hf
        obtain ⟨qk19, hf⟩ := hf
        have L20 : LY (hsr r8.2 b14 (Int32.toNatClampNeg (hi r8.2 t 4)) (some b12)) := LY.sra L10 qk19
        refine XS.go (s_aast105 rfl qk16.1 qk16.2 (inLit (N := hn r8.2 b14) rfl qk18.1 qk18.2.1 qk18.2.2) qk17.1 qk17.2) ?_
        refine XS.go (s_aloadn rfl rfl rfl) ?_
        refine XS.go (s_dup rfl rfl) ?_
        replace hf := xi_none hf
        obtain ⟨qk21, hf⟩ := hf
        refine XS.go (s_getie rfl xf9_32 qk21.1 qk21.2 (by decide) rfl rfl) ?_
        refine XS.go (s_iconst (v := 1) rfl rfl) ?_
        refine XS.go (s_iadd rfl) ?_
        refine XS.go (s_puti rfl xf9_32 qk21.1 qk21.2 (by decide) rfl (Or.inl rfl)) ?_
        exact XR.forget (L2 := [none, none, none, none, none, none, some (.ref b12)]) ⟨rfl, trivial⟩ (kb_s_addTo_56 (by simp only [LY_si, LY_sj]; exact L20) hf)
    · replace hf := xi_neg hf qc6
      exact XR.forget (L2 := [none, none, none, none, none, none, none]) trivial (kb_s_addTo_19 L0 hf)
