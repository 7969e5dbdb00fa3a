/-! Methods as functions of the heap -/
def f_t_node (a0 : Int32) (h : XH) : Option (Int32 × XH) := (Option.bind (hr h 0 4) fun b1 => (Option.bind (f_r_tell b1 a0 h) fun r3 => (some (r3.1, r3.2))))
set_option maxRecDepth 20000 in
theorem kf_t_node {l : Launch} {G : XG} {d : Nat} {a0 : Int32} {h : XH} {r : Int32 × XH} (L0 : LY h) (hf : f_t_node a0 h = some r) : XC l G xEX11_node (d + 4) [.ref 0, .int a0] h (fun v h2 => (h2 = r.2 ∧ v = some (.int r.1)) ∧ LY r.2) := by
  refine XC.virt xvX11_node (Nat.le_of_ble_eq_true rfl) ?_
  unfold f_t_node at hf
  refine XR.norm (L3 := [some (.ref 0), some (.int a0)]) rfl ?_
  refine XS.go (s_aloadn rfl rfl rfl) ?_
  refine XS.go (s_getr rfl xf11_53 (LY.lt L0 (by decide)) (LY.k0 L0) (by decide) rfl (LY.r0_7 L0)) ?_
  refine XS.go (s_aloadn rfl rfl rfl) ?_
  replace hf := xb_some hf
  obtain ⟨b1, qr2, hf⟩ := hf
  refine XS.go (s_getr rfl xf11_36 (LY.lt L0 (by decide)) (LY.k0 L0) (by decide) rfl qr2) ?_
  refine XS.go (s_iloadn rfl rfl rfl) ?_
  replace hf := xb_some hf
  obtain ⟨r3, e4, hf⟩ := hf
  refine r_callv rfl xvX8_tell xm11_364 (kf_r_tell (d := d) L0 e4) (LY.lt L0 (by decide)) (LY.k1255 L0) (by decide) rfl rfl (dl (by decide)) (by decide) (Nat.le_of_ble_eq_true rfl) ?_
  rintro _ _ ⟨⟨rfl, rfl⟩, L5⟩
  cases hf
  exact XR.reti rfl rfl (fun hret => ⟨_, hret, ⟨rfl, rfl⟩, L5⟩)
def f_t_has (a0 : Int32) (h : XH) : Option (Int32 × XH) := (Option.bind (hr h 0 4) fun b1 => (Option.bind (f_r_locate b1 a0 h) fun r3 => (if ¬ r3.1 = 0 then (if ¬ (hi r3.2 1255 8) = (-1) then (some (1, r3.2)) else (some (0, r3.2))) else (some ((-1), r3.2)))))
set_option maxRecDepth 20000 in
theorem kf_t_has {l : Launch} {G : XG} {d : Nat} {a0 : Int32} {h : XH} {r : Int32 × XH} (L0 : LY h) (hf : f_t_has a0 h = some r) : XC l G xEX11_has (d + 6) [.ref 0, .int a0] h (fun v h2 => (h2 = r.2 ∧ v = some (.int r.1)) ∧ LY r.2) := by
  refine XC.virt xvX11_has (Nat.le_of_ble_eq_true rfl) ?_
  unfold f_t_has at hf
  refine XR.norm (L3 := [some (.ref 0), some (.int a0)]) rfl ?_
  refine XS.go (s_aloadn rfl rfl rfl) ?_
  refine XS.go (s_getr rfl xf11_53 (LY.lt L0 (by decide)) (LY.k0 L0) (by decide) rfl (LY.r0_7 L0)) ?_
  refine XS.go (s_aloadn rfl rfl rfl) ?_
  replace hf := xb_some hf
  obtain ⟨b1, qr2, hf⟩ := hf
  refine XS.go (s_getr rfl xf11_36 (LY.lt L0 (by decide)) (LY.k0 L0) (by decide) rfl qr2) ?_
  refine XS.go (s_iloadn rfl rfl rfl) ?_
  replace hf := xb_some hf
  obtain ⟨r3, e4, hf⟩ := hf
  refine r_callv rfl xvX8_locate xm11_368 (kf_r_locate (d := d) L0 e4) (LY.lt L0 (by decide)) (LY.k1255 L0) (by decide) rfl rfl (dl (by decide)) (by decide) (Nat.le_of_ble_eq_true rfl) ?_
  rintro _ _ ⟨⟨rfl, rfl⟩, L5⟩
  refine r_if_ne (tgt := 17) rfl rfl (fun qc6 => ?_) (fun qc6 => ?_)
  · replace hf := xi_pos hf qc6
    refine XS.go (s_aloadn rfl rfl rfl) ?_
    refine XS.go (s_getr rfl xf11_53 (LY.lt L5 (by decide)) (LY.k0 L5) (by decide) rfl (LY.r0_7 L5)) ?_
    refine XS.go (s_getie rfl xf11_372 (LY.lt L5 (by decide)) (LY.k1255 L5) (by decide) rfl rfl) ?_
    refine XS.go (s_iconst (v := (-1)) rfl rfl) ?_
    refine r_icmp_ne (tgt := 32) rfl rfl (fun qc7 => ?_) (fun qc7 => ?_)
    · replace hf := xi_pos hf qc7
      refine XS.go (s_iconst (v := 1) rfl rfl) ?_
      cases hf
      exact XR.reti rfl rfl (fun hret => ⟨_, hret, ⟨rfl, rfl⟩, L5⟩)
    · replace hf := xi_neg hf qc7
      refine XS.go (s_iconst (v := 0) rfl rfl) ?_
      refine XS.go (s_goto (tgt := 33) rfl rfl) ?_
      cases hf
      exact XR.reti rfl rfl (fun hret => ⟨_, hret, ⟨rfl, rfl⟩, L5⟩)
  · replace hf := xi_neg hf qc6
    refine XS.go (s_iconst (v := (-1)) rfl rfl) ?_
    cases hf
    exact XR.reti rfl rfl (fun hret => ⟨_, hret, ⟨rfl, rfl⟩, L5⟩)
def f_t_into (a0 : Int32) (h : XH) : Option (Int32 × XH) := (Option.bind (hr h 0 4) fun b1 => (Option.bind (f_r_locate b1 a0 h) fun r3 => (if r3.1 = 0 then (some ((-1), r3.2)) else (if ¬ (hi r3.2 1255 8) = (-1) then (Option.bind (f_r_enterPart r3.2) fun r8 => (some (r8.1, r8.2))) else (some ((-1), r3.2))))))
set_option maxRecDepth 20000 in
theorem kf_t_into {l : Launch} {G : XG} {d : Nat} {a0 : Int32} {h : XH} {r : Int32 × XH} (L0 : LY h) (hf : f_t_into a0 h = some r) : XC l G xEX11_into (d + 6) [.ref 0, .int a0] h (fun v h2 => (h2 = r.2 ∧ v = some (.int r.1)) ∧ LY r.2) := by
  refine XC.virt xvX11_into (Nat.le_of_ble_eq_true rfl) ?_
  unfold f_t_into at hf
  refine XR.norm (L3 := [some (.ref 0), some (.int a0)]) rfl ?_
  refine XS.go (s_aloadn rfl rfl rfl) ?_
  refine XS.go (s_getr rfl xf11_53 (LY.lt L0 (by decide)) (LY.k0 L0) (by decide) rfl (LY.r0_7 L0)) ?_
  refine XS.go (s_aloadn rfl rfl rfl) ?_
  replace hf := xb_some hf
  obtain ⟨b1, qr2, hf⟩ := hf
  refine XS.go (s_getr rfl xf11_36 (LY.lt L0 (by decide)) (LY.k0 L0) (by decide) rfl qr2) ?_
  refine XS.go (s_iloadn rfl rfl rfl) ?_
  replace hf := xb_some hf
  obtain ⟨r3, e4, hf⟩ := hf
  refine r_callv rfl xvX8_locate xm11_368 (kf_r_locate (d := d) L0 e4) (LY.lt L0 (by decide)) (LY.k1255 L0) (by decide) rfl rfl (dl (by decide)) (by decide) (Nat.le_of_ble_eq_true rfl) ?_
  rintro _ _ ⟨⟨rfl, rfl⟩, L5⟩
  refine r_if_eq (tgt := 26) rfl rfl (fun qc6 => ?_) (fun qc6 => ?_)
  · replace hf := xi_pos hf qc6
    refine XS.go (s_iconst (v := (-1)) rfl rfl) ?_
    cases hf
    exact XR.reti rfl rfl (fun hret => ⟨_, hret, ⟨rfl, rfl⟩, L5⟩)
  · replace hf := xi_neg hf qc6
    refine XS.go (s_aloadn rfl rfl rfl) ?_
    refine XS.go (s_getr rfl xf11_53 (LY.lt L5 (by decide)) (LY.k0 L5) (by decide) rfl (LY.r0_7 L5)) ?_
    refine XS.go (s_getie rfl xf11_372 (LY.lt L5 (by decide)) (LY.k1255 L5) (by decide) rfl rfl) ?_
    refine XS.go (s_iconst (v := (-1)) rfl rfl) ?_
    refine r_icmp_ne (tgt := 28) rfl rfl (fun qc7 => ?_) (fun qc7 => ?_)
    · replace hf := xi_pos hf qc7
      refine XS.go (s_aloadn rfl rfl rfl) ?_
      refine XS.go (s_getr rfl xf11_53 (LY.lt L5 (by decide)) (LY.k0 L5) (by decide) rfl (LY.r0_7 L5)) ?_
      replace hf := xb_some hf
      obtain ⟨r8, e9, hf⟩ := hf
      refine r_callv rfl xvX8_enterPart xm11_384 (kf_r_enterPart (d := d) L5 e9) (LY.lt L5 (by decide)) (LY.k1255 L5) (by decide) rfl rfl (dl (by decide)) (by decide) (Nat.le_of_ble_eq_true rfl) ?_
      rintro _ _ ⟨⟨rfl, rfl⟩, L10⟩
      cases hf
      exact XR.reti rfl rfl (fun hret => ⟨_, hret, ⟨rfl, rfl⟩, L10⟩)
    · replace hf := xi_neg hf qc7
      refine XS.go (s_iconst (v := (-1)) rfl rfl) ?_
      cases hf
      exact XR.reti rfl rfl (fun hret => ⟨_, hret, ⟨rfl, rfl⟩, L5⟩)
def f_t_up (h : XH) : Option (Int32 × XH) := (Option.bind (f_r_leave h) fun r1 => (some (r1.1, r1.2)))
set_option maxRecDepth 20000 in
theorem kf_t_up {l : Launch} {G : XG} {d : Nat} {h : XH} {r : Int32 × XH} (L0 : LY h) (hf : f_t_up h = some r) : XC l G xEX11_up (d + 3) [.ref 0] h (fun v h2 => (h2 = r.2 ∧ v = some (.int r.1)) ∧ LY r.2) := by
  refine XC.virt xvX11_up (Nat.le_of_ble_eq_true rfl) ?_
  unfold f_t_up at hf
  refine XR.norm (L3 := [some (.ref 0)]) rfl ?_
  refine XS.go (s_aloadn rfl rfl rfl) ?_
  refine XS.go (s_getr rfl xf11_53 (LY.lt L0 (by decide)) (LY.k0 L0) (by decide) rfl (LY.r0_7 L0)) ?_
  replace hf := xb_some hf
  obtain ⟨r1, e2, hf⟩ := hf
  refine r_callv rfl xvX8_leave xm11_387 (kf_r_leave (d := d) L0 e2) (LY.lt L0 (by decide)) (LY.k1255 L0) (by decide) rfl rfl (dl (by decide)) (by decide) (Nat.le_of_ble_eq_true rfl) ?_
  rintro _ _ ⟨⟨rfl, rfl⟩, L3⟩
  cases hf
  exact XR.reti rfl rfl (fun hret => ⟨_, hret, ⟨rfl, rfl⟩, L3⟩)
def f_t_write (a0 : Int32) (a1 : Int64) (h : XH) : Option (Int32 × XH) := (Option.bind (hr h 0 4) fun b1 => (Option.bind (f_r_locate b1 a0 h) fun r3 => (if r3.1 = 0 then (some (0, r3.2)) else (if ¬ (hi r3.2 1255 6) = 0 then (some (0, r3.2)) else (if (hi r3.2 1255 8) = (-1) then (some (0, r3.2)) else (Option.bind (f_t_isValue (hi r3.2 1255 7) a1 r3.2) fun r9 => (if ¬ r9.1 = 0 then (Option.bind (f_t_scalarBytes (hi r9.2 1255 7) r9.2) fun r13 => (Option.bind (f_b_number 1256 (hi r9.2 1255 8) r13.1 r13.2) fun r16 => (Option.bind (f_b_putNumber 1256 (hi r9.2 1255 8) r13.1 a1 r16.2) fun r19 => (if hz r19.2 < 1000000 then (Option.bind (hr (hnew r19.2 5 6) 0 4) fun b24 => (if (hz r19.2) < hz (hnew r19.2 5 6) ∧ hk (hnew r19.2 5 6) (hz r19.2) = 5 then (Option.bind (f_j_init (hz r19.2) b24 1256 (hi (hnew r19.2 5 6) 1256 1) (hnew r19.2 5 6)) fun r27 => (if (hz r19.2) < hz r27.2 ∧ hk r27.2 (hz r19.2) = 5 then (Option.bind (f_j_accepts (hz r19.2) r27.2) fun r31 => (if ¬ r31.1 = 0 then (Option.bind (hr r31.2 0 4) fun b35 => (if b35 < hz r31.2 ∧ hk r31.2 b35 = 9 then (Option.bind (f_r_goToRoot (hi r31.2 b35 5) r31.2) fun r38 => (some (1, r38.2))) else none)) else (Option.bind (f_b_putNumber 1256 (hi r9.2 1255 8) r13.1 r16.1 r31.2) fun r41 => (some (0, r41.2))))) else none)) else none)) else none)))) else (some (0, r9.2)))))))))
set_option maxRecDepth 20000 in
theorem kf_t_write {l : Launch} {G : XG} {d : Nat} {a0 : Int32} {a1 : Int64} {h : XH} {r : Int32 × XH} (L0 : LY h) (hf : f_t_write a0 a1 h = some r) : XC l G xEX11_write (d + 202) [.ref 0, .int a0, .long a1] h (fun v h2 => (h2 = r.2 ∧ v = some (.int r.1)) ∧ LY r.2) := by
  refine XC.virt xvX11_write (Nat.le_of_ble_eq_true rfl) ?_
  unfold f_t_write at hf
  refine XR.norm (L3 := [some (.ref 0), some (.int a0), some (.long a1), none, none, none, none, none, none, none]) rfl ?_
  refine XS.go (s_aloadn rfl rfl rfl) ?_
  refine XS.go (s_getr rfl xf11_53 (LY.lt L0 (by decide)) (LY.k0 L0) (by decide) rfl (LY.r0_7 L0)) ?_
  refine XS.go (s_aloadn rfl rfl rfl) ?_
  replace hf := xb_some hf
  obtain ⟨b1, qr2, hf⟩ := hf
  refine XS.go (s_getr rfl xf11_36 (LY.lt L0 (by decide)) (LY.k0 L0) (by decide) rfl qr2) ?_
  refine XS.go (s_iloadn rfl rfl rfl) ?_
  replace hf := xb_some hf
  obtain ⟨r3, e4, hf⟩ := hf
  refine r_callv rfl xvX8_locate xm11_368 (kf_r_locate (d := d) L0 e4) (LY.lt L0 (by decide)) (LY.k1255 L0) (by decide) rfl rfl (dl (by decide)) (by decide) (Nat.le_of_ble_eq_true rfl) ?_
  rintro _ _ ⟨⟨rfl, rfl⟩, L5⟩
  refine r_if_eq (tgt := 50) rfl rfl (fun qc6 => ?_) (fun qc6 => ?_)
  · replace hf := xi_pos hf qc6
    refine XS.go (s_iconst (v := 0) rfl rfl) ?_
    cases hf
    exact XR.retz rfl rfl (by decide) (fun hret => ⟨_, hret, ⟨rfl, rfl⟩, L5⟩)
  · replace hf := xi_neg hf qc6
    refine XS.go (s_aloadn rfl rfl rfl) ?_
    refine XS.go (s_getr rfl xf11_53 (LY.lt L5 (by decide)) (LY.k0 L5) (by decide) rfl (LY.r0_7 L5)) ?_
    refine XS.go (s_getie rfl xf11_390 (LY.lt L5 (by decide)) (LY.k1255 L5) (by decide) rfl rfl) ?_
    refine r_if_ne (tgt := 50) rfl rfl (fun qc7 => ?_) (fun qc7 => ?_)
    · replace hf := xi_pos hf qc7
      refine XS.go (s_iconst (v := 0) rfl rfl) ?_
      cases hf
      exact XR.retz rfl rfl (by decide) (fun hret => ⟨_, hret, ⟨rfl, rfl⟩, L5⟩)
    · replace hf := xi_neg hf qc7
      refine XS.go (s_aloadn rfl rfl rfl) ?_
      refine XS.go (s_getr rfl xf11_53 (LY.lt L5 (by decide)) (LY.k0 L5) (by decide) rfl (LY.r0_7 L5)) ?_
      refine XS.go (s_getie rfl xf11_372 (LY.lt L5 (by decide)) (LY.k1255 L5) (by decide) rfl rfl) ?_
      refine XS.go (s_iconst (v := (-1)) rfl rfl) ?_
      refine r_icmp_eq (tgt := 50) rfl rfl (fun qc8 => ?_) (fun qc8 => ?_)
      · replace hf := xi_pos hf qc8
        refine XS.go (s_iconst (v := 0) rfl rfl) ?_
        cases hf
        exact XR.retz rfl rfl (by decide) (fun hret => ⟨_, hret, ⟨rfl, rfl⟩, L5⟩)
      · replace hf := xi_neg hf qc8
        refine XS.go (s_aloadn rfl rfl rfl) ?_
        refine XS.go (s_getr rfl xf11_53 (LY.lt L5 (by decide)) (LY.k0 L5) (by decide) rfl (LY.r0_7 L5)) ?_
        refine XS.go (s_getie rfl xf11_393 (LY.lt L5 (by decide)) (LY.k1255 L5) (by decide) rfl rfl) ?_
        refine XS.go (s_lloadn rfl rfl rfl) ?_
        replace hf := xb_some hf
        obtain ⟨r9, e10, hf⟩ := hf
        refine r_calls rfl xsX11_isValue xm11_264 (kf_t_isValue (d := d) L5 e10) rfl rfl (dl (by decide)) (by decide) (Nat.le_of_ble_eq_true rfl) ?_
        rintro _ _ ⟨⟨rfl, rfl⟩, L11⟩
        refine r_if_ne (tgt := 52) rfl rfl (fun qc12 => ?_) (fun qc12 => ?_)
        · replace hf := xi_pos hf qc12
          refine XS.go (s_aloadn rfl rfl rfl) ?_
          refine XS.go (s_getr rfl xf11_53 (LY.lt L11 (by decide)) (LY.k0 L11) (by decide) rfl (LY.r0_7 L11)) ?_
          refine XS.go (s_getr rfl xf11_339 (LY.lt L11 (by decide)) (LY.k1255 L11) (by decide) rfl (LY.r1255_0 L11)) ?_
          refine XS.go (XS.lcl (L3 := [some (.ref 0), some (.int a0), some (.long a1), none, some (.ref 1256), none, none, none, none, none]) (s_astore rfl (Nat.le_of_ble_eq_true rfl)) rfl) ?_
          refine XS.go (s_aloadn rfl rfl rfl) ?_
          refine XS.go (s_getr rfl xf11_53 (LY.lt L11 (by decide)) (LY.k0 L11) (by decide) rfl (LY.r0_7 L11)) ?_
          refine XS.go (s_getie rfl xf11_372 (LY.lt L11 (by decide)) (LY.k1255 L11) (by decide) rfl rfl) ?_
          refine XS.go (XS.lcl (L3 := [some (.ref 0), some (.int a0), some (.long a1), none, some (.ref 1256), some (.int (hi r9.2 1255 8)), none, none, none, none]) (s_istore rfl (Nat.le_of_ble_eq_true rfl)) rfl) ?_
          refine XS.go (s_aloadn rfl rfl rfl) ?_
          refine XS.go (s_getr rfl xf11_53 (LY.lt L11 (by decide)) (LY.k0 L11) (by decide) rfl (LY.r0_7 L11)) ?_
          refine XS.go (s_getie rfl xf11_393 (LY.lt L11 (by decide)) (LY.k1255 L11) (by decide) rfl rfl) ?_
          replace hf := xb_some hf
          obtain ⟨r13, e14, hf⟩ := hf
          refine r_calls rfl xsX11_scalarBytes xm11_396 (kf_t_scalarBytes (d := d) L11 e14) rfl rfl (dl0 (by decide)) (by decide) (Nat.le_of_ble_eq_true rfl) ?_
          rintro _ _ ⟨⟨rfl, rfl⟩, L15⟩
          refine XS.go (XS.lcl (L3 := [some (.ref 0), some (.int a0), some (.long a1), none, some (.ref 1256), some (.int (hi r9.2 1255 8)), some (.int r13.1), none, none, none]) (s_istore rfl (Nat.le_of_ble_eq_true rfl)) rfl) ?_
          refine XS.go (s_aload rfl rfl) ?_
          refine XS.go (s_iload rfl rfl) ?_
          refine XS.go (s_iload rfl rfl) ?_
          replace hf := xb_some hf
          obtain ⟨r16, e17, hf⟩ := hf
          refine r_callv rfl xvX1_number xm11_399 (kf_b_number (d := d) L15 e17) (LY.lt L15 (by decide)) (LY.k1256 L15) (by decide) rfl rfl (dl0 (by decide)) (by decide) (Nat.le_of_ble_eq_true rfl) ?_
          rintro _ _ ⟨⟨rfl, rfl⟩, L18⟩
          refine XS.go (XS.lcl (L3 := [some (.ref 0), some (.int a0), some (.long a1), none, some (.ref 1256), some (.int (hi r9.2 1255 8)), some (.int r13.1), some (.long r16.1), none, none]) (s_lstore rfl (Nat.le_of_ble_eq_true rfl)) rfl) ?_
          refine XS.go (s_aload rfl rfl) ?_
          refine XS.go (s_iload rfl rfl) ?_
          refine XS.go (s_iload rfl rfl) ?_
          refine XS.go (s_lloadn rfl rfl rfl) ?_
          replace hf := xb_some hf
          obtain ⟨r19, e20, hf⟩ := hf
          refine r_callv rfl xvX1_putNumber xm11_401 (kf_b_putNumber (d := d) L18 e20) (LY.lt L18 (by decide)) (LY.k1256 L18) (by decide) rfl rfl (dl (by decide)) (by decide) (Nat.le_of_ble_eq_true rfl) ?_
          rintro _ _ ⟨⟨rfl, rfl⟩, L21⟩
          replace hf := xi_none hf
          obtain ⟨qk22, hf⟩ := hf
          have L23 : LY (hnew r19.2 5 6) := LY.new L21 qk22
          refine XS.go (s_new (ci := 5) rfl (lg_3 175 rfl rfl) (by decide) rfl qk22) ?_
          refine XS.go (s_dup rfl rfl) ?_
          refine XS.go (s_aloadn rfl rfl rfl) ?_
          replace hf := xb_some hf
          obtain ⟨b24, qr25, hf⟩ := hf
          refine XS.go (s_getr rfl xf11_36 (LY.lt L23 (by decide)) (LY.k0 L23) (by decide) rfl qr25) ?_
          refine XS.go (s_aload rfl rfl) ?_
          refine XS.go (s_aload rfl rfl) ?_
          refine XS.go (s_getie rfl xf11_73 (LY.lt L23 (by decide)) (LY.k1256 L23) (by decide) rfl rfl) ?_
          replace hf := xi_none hf
          obtain ⟨qk26, hf⟩ := hf
          replace hf := xb_some hf
          obtain ⟨r27, e28, hf⟩ := hf
          refine r_calli rfl xnX5_init rfl xm11_351 (kf_j_init (d := d) L23 e28) rfl rfl (dl (by decide)) (by decide) (Nat.le_of_ble_eq_true rfl) ?_
          rintro _ _ ⟨⟨rfl, rfl⟩, L29⟩
          refine XS.go (XS.lcl (L3 := [some (.ref 0), some (.int a0), some (.long a1), none, some (.ref 1256), some (.int (hi r9.2 1255 8)), some (.int r13.1), some (.long r16.1), none, some (.ref (hz r19.2))]) (s_astore rfl (Nat.le_of_ble_eq_true rfl)) rfl) ?_
          refine XS.go (s_aload rfl rfl) ?_
          replace hf := xi_none hf
          obtain ⟨qk30, hf⟩ := hf
          replace hf := xb_some hf
          obtain ⟨r31, e32, hf⟩ := hf
          refine r_callv rfl xvX5_accepts xm11_354 (kf_j_accepts (d := d) L29 e32) qk30.1 qk30.2 (by decide) rfl rfl (dl (by decide)) (by decide) (Nat.le_of_ble_eq_true rfl) ?_
          rintro _ _ ⟨⟨rfl, rfl⟩, L33⟩
          refine r_if_ne (tgt := 144) rfl rfl (fun qc34 => ?_) (fun qc34 => ?_)
          · replace hf := xi_pos hf qc34
            refine XS.go (s_aloadn rfl rfl rfl) ?_
            refine XS.go (s_getr rfl xf11_53 (LY.lt L33 (by decide)) (LY.k0 L33) (by decide) rfl (LY.r0_7 L33)) ?_
            refine XS.go (s_aloadn rfl rfl rfl) ?_
            replace hf := xb_some hf
            obtain ⟨b35, qr36, hf⟩ := hf
            refine XS.go (s_getr rfl xf11_36 (LY.lt L33 (by decide)) (LY.k0 L33) (by decide) rfl qr36) ?_
            replace hf := xi_none hf
            obtain ⟨qk37, hf⟩ := hf
            refine XS.go (s_getie rfl xf11_131 qk37.1 qk37.2 (by decide) rfl rfl) ?_
            replace hf := xb_some hf
            obtain ⟨r38, e39, hf⟩ := hf
            refine r_callv rfl xvX8_goToRoot xm11_405 (kf_r_goToRoot (d := d) L33 e39) (LY.lt L33 (by decide)) (LY.k1255 L33) (by decide) rfl rfl (dl (by decide)) (by decide) (Nat.le_of_ble_eq_true rfl) ?_
            rintro _ _ ⟨⟨rfl, rfl⟩, L40⟩
            refine XS.go (s_iconst (v := 1) rfl rfl) ?_
            cases hf
            exact XR.retz rfl rfl (by decide) (fun hret => ⟨_, hret, ⟨rfl, rfl⟩, L40⟩)
          · replace hf := xi_neg hf qc34
            refine XS.go (s_aload rfl rfl) ?_
            refine XS.go (s_iload rfl rfl) ?_
            refine XS.go (s_iload rfl rfl) ?_
            refine XS.go (s_lload rfl rfl) ?_
            replace hf := xb_some hf
            obtain ⟨r41, e42, hf⟩ := hf
            refine r_callv rfl xvX1_putNumber xm11_401 (kf_b_putNumber (d := d) L33 e42) (LY.lt L33 (by decide)) (LY.k1256 L33) (by decide) rfl rfl (dl (by decide)) (by decide) (Nat.le_of_ble_eq_true rfl) ?_
            rintro _ _ ⟨⟨rfl, rfl⟩, L43⟩
            refine XS.go (s_iconst (v := 0) rfl rfl) ?_
            cases hf
            exact XR.retz rfl rfl (by decide) (fun hret => ⟨_, hret, ⟨rfl, rfl⟩, L43⟩)
        · replace hf := xi_neg hf qc12
          refine XS.go (s_iconst (v := 0) rfl rfl) ?_
          cases hf
          exact XR.retz rfl rfl (by decide) (fun hret => ⟨_, hret, ⟨rfl, rfl⟩, L11⟩)
def f_t_byteAt (a0 : Int32) (h : XH) : Option (Int32 × XH) := (Option.bind (f_b_octetOrNone 1256 a0 h) fun r1 => (some (r1.1, r1.2)))
set_option maxRecDepth 20000 in
theorem kf_t_byteAt {l : Launch} {G : XG} {d : Nat} {a0 : Int32} {h : XH} {r : Int32 × XH} (L0 : LY h) (hf : f_t_byteAt a0 h = some r) : XC l G xEX11_byteAt (d + 2) [.ref 0, .int a0] h (fun v h2 => (h2 = r.2 ∧ v = some (.int r.1)) ∧ LY r.2) := by
  refine XC.virt xvX11_byteAt (Nat.le_of_ble_eq_true rfl) ?_
  unfold f_t_byteAt at hf
  refine XR.norm (L3 := [some (.ref 0), some (.int a0)]) rfl ?_
  refine XS.go (s_aloadn rfl rfl rfl) ?_
  refine XS.go (s_getr rfl xf11_53 (LY.lt L0 (by decide)) (LY.k0 L0) (by decide) rfl (LY.r0_7 L0)) ?_
  refine XS.go (s_getr rfl xf11_339 (LY.lt L0 (by decide)) (LY.k1255 L0) (by decide) rfl (LY.r1255_0 L0)) ?_
  refine XS.go (s_iloadn rfl rfl rfl) ?_
  replace hf := xb_some hf
  obtain ⟨r1, e2, hf⟩ := hf
  refine r_callv rfl xvX1_octetOrNone xm11_332 (kf_b_octetOrNone (d := d) L0 e2) (LY.lt L0 (by decide)) (LY.k1256 L0) (by decide) rfl rfl (dl (by decide)) (by decide) (Nat.le_of_ble_eq_true rfl) ?_
  rintro _ _ ⟨⟨rfl, rfl⟩, L3⟩
  cases hf
  exact XR.reti rfl rfl (fun hret => ⟨_, hret, ⟨rfl, rfl⟩, L3⟩)
def f_m_thrown (h : XH) : Option (Int32 × XH) := (some ((hi h 1262 0), h))
set_option maxRecDepth 20000 in
theorem kf_m_thrown {l : Launch} {G : XG} {d : Nat} {h : XH} {r : Int32 × XH} (L0 : LY h) (hf : f_m_thrown h = some r) : XC l G xEX12_thrown d [.ref 1262] h (fun v h2 => (h2 = r.2 ∧ v = some (.int r.1)) ∧ LY r.2) := by
  refine XC.virt xvX12_thrown (Nat.le_of_ble_eq_true rfl) ?_
  unfold f_m_thrown at hf
  refine XR.norm (L3 := [some (.ref 1262)]) rfl ?_
  refine XS.go (s_aloadn rfl rfl rfl) ?_
  refine XS.go (s_getie rfl xf12_175 (LY.lt L0 (by decide)) (LY.k1262 L0) (by decide) rfl rfl) ?_
  cases hf
  exact XR.reti rfl rfl (fun hret => ⟨_, hret, ⟨rfl, rfl⟩, L0⟩)
def b_m_feed_73 (K20 : Int32 → Int32 → Int32 → Int32 → Int32 → Int32 → XH → Option (Int32 × XH)) (x1 : Int32) (x2 : Int32) (x3 : Int32) (x4 : Int32) (x5 : Int32) (x6 : Int32) (y0 : Int32) (h : XH) : Option (Int32 × XH) := (if 0 ≤ ((hi h 1262 2) + x6) ∧ ((hi h 1262 2) + x6) < nI 4000 then (K20 x1 x2 x3 x4 x5 (x6 + 1) (hsi h 1263 (Int32.toNatClampNeg ((hi h 1262 2) + x6)) ((y0 >>> ((8 * (3 - (x6 - x6 / 4 * 4))) &&& 31)) &&& 255))) else none)
set_option maxRecDepth 20000 in
theorem kb_m_feed_73 {l : Launch} {G : XG} {d : Nat} {K20 : Int32 → Int32 → Int32 → Int32 → Int32 → Int32 → XH → Option (Int32 × XH)} {x1 : Int32} {x2 : Int32} {x3 : Int32} {x4 : Int32} {x5 : Int32} {x6 : Int32} {y0 : Int32} {h : XH} {r : Int32 × XH} (hK20 : ∀ (x1 : Int32) (x2 : Int32) (x3 : Int32) (x4 : Int32) (x5 : Int32) (x6 : Int32) (h : XH), LY h → K20 x1 x2 x3 x4 x5 x6 h = some r → XR l G xEX12_feed d (20, [some (.ref 1262), some (.int x1), some (.int x2), some (.int x3), some (.int x4), some (.int x5), some (.int x6), none], [], h) (fun C => ∃ v, xRet xEX12_feed C v ∧ (C.2.2.2 = r.2 ∧ v = some (.int r.1)) ∧ LY r.2)) (L0 : LY h) (hf : b_m_feed_73 K20 x1 x2 x3 x4 x5 x6 y0 h = some r) : XR l G xEX12_feed d (73, [some (.ref 1262), some (.int x1), some (.int x2), some (.int x3), some (.int x4), some (.int x5), some (.int x6), none], [(.int y0)], h) (fun C => ∃ v, xRet xEX12_feed C v ∧ (C.2.2.2 = r.2 ∧ v = some (.int r.1)) ∧ LY r.2) := by
  unfold b_m_feed_73 at hf
  refine XS.go (XS.lcl (L3 := [some (.ref 1262), some (.int x1), some (.int x2), some (.int x3), some (.int x4), some (.int x5), some (.int x6), some (.int y0)]) (s_istore rfl (Nat.le_of_ble_eq_true rfl)) rfl) ?_
  refine XS.go (s_aloadn rfl rfl rfl) ?_
  refine XS.go (s_getr rfl xf12_9 (LY.lt L0 (by decide)) (LY.k1262 L0) (by decide) rfl (LY.r1262_1 L0)) ?_
  refine XS.go (s_aloadn rfl rfl rfl) ?_
  refine XS.go (s_getie rfl xf12_178 (LY.lt L0 (by decide)) (LY.k1262 L0) (by decide) rfl rfl) ?_
  refine XS.go (s_iload rfl rfl) ?_
  refine XS.go (s_iadd rfl) ?_
  refine XS.go (s_iload rfl rfl) ?_
  refine XS.go (s_bipush (v := 8) rfl rfl) ?_
  refine XS.go (s_iconst (v := 3) rfl rfl) ?_
  refine XS.go (s_iload rfl rfl) ?_
  refine XS.go (s_iconst (v := 4) rfl rfl) ?_
  refine XS.go (s_irem (by decide) rfl) ?_
  refine XS.go (s_isub rfl) ?_
  refine XS.go (s_imul rfl) ?_
  refine XS.go (s_ishr rfl) ?_
  refine XS.go (s_sipush (v := 255) rfl rfl) ?_
  refine XS.go (s_iand rfl) ?_
  replace hf := xi_none hf
  obtain ⟨qk1, hf⟩ := hf
  refine XS.go (s_iast rfl (LY.lt L0 (by decide)) (LY.k1263 L0) (inLit (LY.n1263 L0) qk1.1 qk1.2 (by decide))) ?_
  refine XS.go (XS.lcl (L3 := [some (.ref 1262), some (.int x1), some (.int x2), some (.int x3), some (.int x4), some (.int x5), some (.int (x6 + 1)), some (.int y0)]) (s_inc rfl rfl (Nat.le_of_ble_eq_true rfl)) rfl) ?_
  refine XS.go (s_goto (tgt := 20) rfl rfl) ?_
  exact XR.forget (L2 := [some (.ref 1262), some (.int x1), some (.int x2), some (.int x3), some (.int x4), some (.int x5), some (.int (x6 + 1)), none]) ⟨rfl, ⟨rfl, ⟨rfl, ⟨rfl, ⟨rfl, ⟨rfl, ⟨rfl, trivial⟩⟩⟩⟩⟩⟩⟩ (hK20 x1 x2 x3 x4 x5 (x6 + 1) _ (by simp only [LY_si, LY_sj]; exact L0) hf)
def s_m_feed_20 (K20 : Int32 → Int32 → Int32 → Int32 → Int32 → Int32 → XH → Option (Int32 × XH)) (x1 : Int32) (x2 : Int32) (x3 : Int32) (x4 : Int32) (x5 : Int32) (x6 : Int32) (h : XH) : Option (Int32 × XH) := (if 20 ≤ x6 then (some (((hi h 1262 2) + 20), (hsi h 1262 2 ((hi h 1262 2) + 20)))) else (if 4 ≤ x6 then (if 8 ≤ x6 then (if 12 ≤ x6 then (if 16 ≤ x6 then (b_m_feed_73 K20 x1 x2 x3 x4 x5 x6 x5 h) else (b_m_feed_73 K20 x1 x2 x3 x4 x5 x6 x4 h)) else (b_m_feed_73 K20 x1 x2 x3 x4 x5 x6 x3 h)) else (b_m_feed_73 K20 x1 x2 x3 x4 x5 x6 x2 h)) else (b_m_feed_73 K20 x1 x2 x3 x4 x5 x6 x1 h)))
set_option maxRecDepth 20000 in
theorem ks_m_feed_20 {l : Launch} {G : XG} {d : Nat} {K20 : Int32 → Int32 → Int32 → Int32 → Int32 → Int32 → XH → Option (Int32 × XH)} {x1 : Int32} {x2 : Int32} {x3 : Int32} {x4 : Int32} {x5 : Int32} {x6 : Int32} {h : XH} {r : Int32 × XH} (hK20 : ∀ (x1 : Int32) (x2 : Int32) (x3 : Int32) (x4 : Int32) (x5 : Int32) (x6 : Int32) (h : XH), LY h → K20 x1 x2 x3 x4 x5 x6 h = some r → XR l G xEX12_feed d (20, [some (.ref 1262), some (.int x1), some (.int x2), some (.int x3), some (.int x4), some (.int x5), some (.int x6), none], [], h) (fun C => ∃ v, xRet xEX12_feed C v ∧ (C.2.2.2 = r.2 ∧ v = some (.int r.1)) ∧ LY r.2)) (L0 : LY h) (hf : s_m_feed_20 K20 x1 x2 x3 x4 x5 x6 h = some r) : XR l G xEX12_feed d (20, [some (.ref 1262), some (.int x1), some (.int x2), some (.int x3), some (.int x4), some (.int x5), some (.int x6), none], [], h) (fun C => ∃ v, xRet xEX12_feed C v ∧ (C.2.2.2 = r.2 ∧ v = some (.int r.1)) ∧ LY r.2) := by
  unfold s_m_feed_20 at hf
  refine XS.go (s_iload rfl rfl) ?_
  refine XS.go (s_bipush (v := 20) rfl rfl) ?_
  refine r_icmp_ge (tgt := 109) rfl rfl (fun qc2 => ?_) (fun qc2 => ?_)
  · replace hf := xi_pos hf qc2
    refine XS.go (s_aloadn rfl rfl rfl) ?_
    refine XS.go (s_dup rfl rfl) ?_
    refine XS.go (s_getie rfl xf12_178 (LY.lt L0 (by decide)) (LY.k1262 L0) (by decide) rfl rfl) ?_
    refine XS.go (s_bipush (v := 20) rfl rfl) ?_
    refine XS.go (s_iadd rfl) ?_
    refine XS.go (s_puti rfl xf12_178 (LY.lt L0 (by decide)) (LY.k1262 L0) (by decide) rfl (Or.inl rfl)) ?_
    refine XS.go (s_aloadn rfl rfl rfl) ?_
    refine XS.go (s_getie rfl xf12_178 (LY.lt (by simp only [LY_si, LY_sj]; exact L0) (by decide)) (LY.k1262 (by simp only [LY_si, LY_sj]; exact L0)) (by decide) rfl hi_hsi_eq) ?_
    cases hf
    exact XR.reti rfl rfl (fun hret => ⟨_, hret, ⟨rfl, rfl⟩, (by simp only [LY_si, LY_sj]; exact L0)⟩)
  · replace hf := xi_neg hf qc2
    refine XS.go (s_iload rfl rfl) ?_
    refine XS.go (s_iconst (v := 4) rfl rfl) ?_
    refine r_icmp_ge (tgt := 37) rfl rfl (fun qc3 => ?_) (fun qc3 => ?_)
    · replace hf := xi_pos hf qc3
      refine XS.go (s_iload rfl rfl) ?_
      refine XS.go (s_bipush (v := 8) rfl rfl) ?_
      refine r_icmp_ge (tgt := 48) rfl rfl (fun qc4 => ?_) (fun qc4 => ?_)
      · replace hf := xi_pos hf qc4
        refine XS.go (s_iload rfl rfl) ?_
        refine XS.go (s_bipush (v := 12) rfl rfl) ?_
        refine r_icmp_ge (tgt := 59) rfl rfl (fun qc5 => ?_) (fun qc5 => ?_)
        · replace hf := xi_pos hf qc5
          refine XS.go (s_iload rfl rfl) ?_
          refine XS.go (s_bipush (v := 16) rfl rfl) ?_
          refine r_icmp_ge (tgt := 71) rfl rfl (fun qc6 => ?_) (fun qc6 => ?_)
          · replace hf := xi_pos hf qc6
            refine XS.go (s_iload rfl rfl) ?_
            exact XR.forget (L2 := [some (.ref 1262), some (.int x1), some (.int x2), some (.int x3), some (.int x4), some (.int x5), some (.int x6), none]) ⟨rfl, ⟨rfl, ⟨rfl, ⟨rfl, ⟨rfl, ⟨rfl, ⟨rfl, trivial⟩⟩⟩⟩⟩⟩⟩ (kb_m_feed_73 hK20 L0 hf)
          · replace hf := xi_neg hf qc6
            refine XS.go (s_iload rfl rfl) ?_
            refine XS.go (s_goto (tgt := 73) rfl rfl) ?_
            exact XR.forget (L2 := [some (.ref 1262), some (.int x1), some (.int x2), some (.int x3), some (.int x4), some (.int x5), some (.int x6), none]) ⟨rfl, ⟨rfl, ⟨rfl, ⟨rfl, ⟨rfl, ⟨rfl, ⟨rfl, trivial⟩⟩⟩⟩⟩⟩⟩ (kb_m_feed_73 hK20 L0 hf)
        · replace hf := xi_neg hf qc5
          refine XS.go (s_iloadn rfl rfl rfl) ?_
          refine XS.go (s_goto (tgt := 73) rfl rfl) ?_
          exact XR.forget (L2 := [some (.ref 1262), some (.int x1), some (.int x2), some (.int x3), some (.int x4), some (.int x5), some (.int x6), none]) ⟨rfl, ⟨rfl, ⟨rfl, ⟨rfl, ⟨rfl, ⟨rfl, ⟨rfl, trivial⟩⟩⟩⟩⟩⟩⟩ (kb_m_feed_73 hK20 L0 hf)
      · replace hf := xi_neg hf qc4
        refine XS.go (s_iloadn rfl rfl rfl) ?_
        refine XS.go (s_goto (tgt := 73) rfl rfl) ?_
        exact XR.forget (L2 := [some (.ref 1262), some (.int x1), some (.int x2), some (.int x3), some (.int x4), some (.int x5), some (.int x6), none]) ⟨rfl, ⟨rfl, ⟨rfl, ⟨rfl, ⟨rfl, ⟨rfl, ⟨rfl, trivial⟩⟩⟩⟩⟩⟩⟩ (kb_m_feed_73 hK20 L0 hf)
    · replace hf := xi_neg hf qc3
      refine XS.go (s_iloadn rfl rfl rfl) ?_
      refine XS.go (s_goto (tgt := 73) rfl rfl) ?_
      exact XR.forget (L2 := [some (.ref 1262), some (.int x1), some (.int x2), some (.int x3), some (.int x4), some (.int x5), some (.int x6), none]) ⟨rfl, ⟨rfl, ⟨rfl, ⟨rfl, ⟨rfl, ⟨rfl, ⟨rfl, trivial⟩⟩⟩⟩⟩⟩⟩ (kb_m_feed_73 hK20 L0 hf)
def b_m_feed_20 : Nat → Int32 → Int32 → Int32 → Int32 → Int32 → Int32 → XH → Option (Int32 × XH)
  | 0, _, _, _, _, _, _, _ => none
  | n + 1, x1, x2, x3, x4, x5, x6, h => s_m_feed_20 (b_m_feed_20 n) x1 x2 x3 x4 x5 x6 h
theorem kb_m_feed_20 {l : Launch} {G : XG} {d : Nat} {n : Nat} {x1 : Int32} {x2 : Int32} {x3 : Int32} {x4 : Int32} {x5 : Int32} {x6 : Int32} {h : XH} {r : Int32 × XH} (L0 : LY h) (hf : b_m_feed_20 n x1 x2 x3 x4 x5 x6 h = some r) : XR l G xEX12_feed d (20, [some (.ref 1262), some (.int x1), some (.int x2), some (.int x3), some (.int x4), some (.int x5), some (.int x6), none], [], h) (fun C => ∃ v, xRet xEX12_feed C v ∧ (C.2.2.2 = r.2 ∧ v = some (.int r.1)) ∧ LY r.2) := by
  induction n generalizing x1 x2 x3 x4 x5 x6 h with
  | zero => cases hf
  | succ n ih => exact ks_m_feed_20 (fun x1 x2 x3 x4 x5 x6 h L0 hf => ih (h := h) (x1 := x1) (x2 := x2) (x3 := x3) (x4 := x4) (x5 := x5) (x6 := x6) L0 hf) L0 hf
def f_m_feed (a0 : Int32) (a1 : Int32) (a2 : Int32) (a3 : Int32) (a4 : Int32) (h : XH) : Option (Int32 × XH) := (if (hi h 1262 2) ≤ 3980 then (b_m_feed_20 100000 a0 a1 a2 a3 a4 0 (hsi h 1262 0 0)) else (some ((-1), (hsi h 1262 0 0))))
set_option maxRecDepth 20000 in
theorem kf_m_feed {l : Launch} {G : XG} {d : Nat} {a0 : Int32} {a1 : Int32} {a2 : Int32} {a3 : Int32} {a4 : Int32} {h : XH} {r : Int32 × XH} (L0 : LY h) (hf : f_m_feed a0 a1 a2 a3 a4 h = some r) : XC l G xEX12_feed d [.ref 1262, .int a0, .int a1, .int a2, .int a3, .int a4] h (fun v h2 => (h2 = r.2 ∧ v = some (.int r.1)) ∧ LY r.2) := by
  refine XC.virt xvX12_feed (Nat.le_of_ble_eq_true rfl) ?_
  unfold f_m_feed at hf
  refine XR.norm (L3 := [some (.ref 1262), some (.int a0), some (.int a1), some (.int a2), some (.int a3), some (.int a4), none, none]) rfl ?_
  refine XS.go (s_aloadn rfl rfl rfl) ?_
  refine XS.go (s_iconst (v := 0) rfl rfl) ?_
  refine XS.go (s_puti rfl xf12_175 (LY.lt L0 (by decide)) (LY.k1262 L0) (by decide) rfl (Or.inl rfl)) ?_
  refine XS.go (s_aloadn rfl rfl rfl) ?_
  refine XS.go (s_getie rfl xf12_178 (LY.lt (by simp only [LY_si, LY_sj]; exact L0) (by decide)) (LY.k1262 (by simp only [LY_si, LY_sj]; exact L0)) (by decide) rfl (hi_hsi_nk (by decide))) ?_
  refine XS.go (s_sipush (v := 3980) rfl rfl) ?_
  refine r_icmp_le (tgt := 17) rfl rfl (fun qc7 => ?_) (fun qc7 => ?_)
  · replace hf := xi_pos hf qc7
    refine XS.go (s_iconst (v := 0) rfl rfl) ?_
    refine XS.go (XS.lcl (L3 := [some (.ref 1262), some (.int a0), some (.int a1), some (.int a2), some (.int a3), some (.int a4), some (.int 0), none]) (s_istore rfl (Nat.le_of_ble_eq_true rfl)) rfl) ?_
    exact XR.forget (L2 := [some (.ref 1262), some (.int a0), some (.int a1), some (.int a2), some (.int a3), some (.int a4), some (.int 0), none]) ⟨rfl, ⟨rfl, ⟨rfl, ⟨rfl, ⟨rfl, ⟨rfl, ⟨rfl, trivial⟩⟩⟩⟩⟩⟩⟩ (kb_m_feed_20 (by simp only [LY_si, LY_sj]; exact L0) hf)
  · replace hf := xi_neg hf qc7
    refine XS.go (s_iconst (v := (-1)) rfl rfl) ?_
    cases hf
    exact XR.reti rfl rfl (fun hret => ⟨_, hret, ⟨rfl, rfl⟩, (by simp only [LY_si, LY_sj]; exact L0)⟩)
def f_m_end (a0 : Int32) (h : XH) : Option (Int32 × XH) := (if a0 < 0 then (some (0, (hsi h 1262 0 0))) else (if a0 ≤ (hi h 1262 2) then (some (1, (hsi (hsi h 1262 0 0) 1262 2 a0))) else (some (0, (hsi h 1262 0 0)))))
set_option maxRecDepth 20000 in
theorem kf_m_end {l : Launch} {G : XG} {d : Nat} {a0 : Int32} {h : XH} {r : Int32 × XH} (L0 : LY h) (hf : f_m_end a0 h = some r) : XC l G xEX12_end d [.ref 1262, .int a0] h (fun v h2 => (h2 = r.2 ∧ v = some (.int r.1)) ∧ LY r.2) := by
  refine XC.virt xvX12_end (Nat.le_of_ble_eq_true rfl) ?_
  unfold f_m_end at hf
  refine XR.norm (L3 := [some (.ref 1262), some (.int a0)]) rfl ?_
  refine XS.go (s_aloadn rfl rfl rfl) ?_
  refine XS.go (s_iconst (v := 0) rfl rfl) ?_
  refine XS.go (s_puti rfl xf12_175 (LY.lt L0 (by decide)) (LY.k1262 L0) (by decide) rfl (Or.inl rfl)) ?_
  refine XS.go (s_iloadn rfl rfl rfl) ?_
  refine r_if_lt (tgt := 17) rfl rfl (fun qc1 => ?_) (fun qc1 => ?_)
  · replace hf := xi_pos hf qc1
    refine XS.go (s_iconst (v := 0) rfl rfl) ?_
    cases hf
    exact XR.retz rfl rfl (by decide) (fun hret => ⟨_, hret, ⟨rfl, rfl⟩, (by simp only [LY_si, LY_sj]; exact L0)⟩)
  · replace hf := xi_neg hf qc1
    refine XS.go (s_iloadn rfl rfl rfl) ?_
    refine XS.go (s_aloadn rfl rfl rfl) ?_
    refine XS.go (s_getie rfl xf12_178 (LY.lt (by simp only [LY_si, LY_sj]; exact L0) (by decide)) (LY.k1262 (by simp only [LY_si, LY_sj]; exact L0)) (by decide) rfl (hi_hsi_nk (by decide))) ?_
    refine r_icmp_le (tgt := 19) rfl rfl (fun qc2 => ?_) (fun qc2 => ?_)
    · replace hf := xi_pos hf qc2
      refine XS.go (s_aloadn rfl rfl rfl) ?_
      refine XS.go (s_iloadn rfl rfl rfl) ?_
      refine XS.go (s_puti rfl xf12_178 (LY.lt (by simp only [LY_si, LY_sj]; exact L0) (by decide)) (LY.k1262 (by simp only [LY_si, LY_sj]; exact L0)) (by decide) rfl (Or.inl rfl)) ?_
      refine XS.go (s_iconst (v := 1) rfl rfl) ?_
      cases hf
      exact XR.retz rfl rfl (by decide) (fun hret => ⟨_, hret, ⟨rfl, rfl⟩, (by simp only [LY_si, LY_sj]; exact L0)⟩)
    · replace hf := xi_neg hf qc2
      refine XS.go (s_iconst (v := 0) rfl rfl) ?_
      cases hf
      exact XR.retz rfl rfl (by decide) (fun hret => ⟨_, hret, ⟨rfl, rfl⟩, (by simp only [LY_si, LY_sj]; exact L0)⟩)
def f_m_signAt (a0 : Int32) (h : XH) : Option (Int32 × XH) := (if (hi h 1262 5) ≤ a0 then (some ((-1), h)) else (if 0 ≤ a0 ∧ a0 < nI 4000 then (some ((hi h 1264 (Int32.toNatClampNeg a0)), h)) else none))
set_option maxRecDepth 20000 in
theorem kf_m_signAt {l : Launch} {G : XG} {d : Nat} {a0 : Int32} {h : XH} {r : Int32 × XH} (L0 : LY h) (hf : f_m_signAt a0 h = some r) : XC l G xEX12_signAt d [.ref 1262, .int a0] h (fun v h2 => (h2 = r.2 ∧ v = some (.int r.1)) ∧ LY r.2) := by
  refine XC.virt xvX12_signAt (Nat.le_of_ble_eq_true rfl) ?_
  unfold f_m_signAt at hf
  refine XR.norm (L3 := [some (.ref 1262), some (.int a0)]) rfl ?_
  refine XS.go (s_iloadn rfl rfl rfl) ?_
  refine XS.go (s_aloadn rfl rfl rfl) ?_
  refine XS.go (s_getie rfl xf12_181 (LY.lt L0 (by decide)) (LY.k1262 L0) (by decide) rfl rfl) ?_
  refine r_icmp_ge (tgt := 17) rfl rfl (fun qc1 => ?_) (fun qc1 => ?_)
  · replace hf := xi_pos hf qc1
    refine XS.go (s_iconst (v := (-1)) rfl rfl) ?_
    cases hf
    exact XR.reti rfl rfl (fun hret => ⟨_, hret, ⟨rfl, rfl⟩, L0⟩)
  · replace hf := xi_neg hf qc1
    refine XS.go (s_aloadn rfl rfl rfl) ?_
    refine XS.go (s_getr rfl xf12_13 (LY.lt L0 (by decide)) (LY.k1262 L0) (by decide) rfl (LY.r1262_3 L0)) ?_
    refine XS.go (s_iloadn rfl rfl rfl) ?_
    replace hf := xi_none hf
    obtain ⟨qk2, hf⟩ := hf
    refine XS.go (s_ialde rfl (LY.lt L0 (by decide)) (LY.k1264 L0) (inLit (LY.n1264 L0) qk2.1 qk2.2 (by decide)) rfl) ?_
    refine XS.go (s_goto (tgt := 18) rfl rfl) ?_
    cases hf
    exact XR.reti rfl rfl (fun hret => ⟨_, hret, ⟨rfl, rfl⟩, L0⟩)
def f_m_isDigit (a0 : Int32) (h : XH) : Option (Int32 × XH) := (if a0 < 48 then (some (0, h)) else (if 57 < a0 then (some (0, h)) else (some (1, h))))
set_option maxRecDepth 20000 in
theorem kf_m_isDigit {l : Launch} {G : XG} {d : Nat} {a0 : Int32} {h : XH} {r : Int32 × XH} (L0 : LY h) (hf : f_m_isDigit a0 h = some r) : XC l G xEX12_isDigit d [.int a0] h (fun v h2 => (h2 = r.2 ∧ v = some (.int r.1)) ∧ LY r.2) := by
  refine XC.stat xsX12_isDigit (Nat.le_of_ble_eq_true rfl) ?_
  unfold f_m_isDigit at hf
  refine XR.norm (L3 := [some (.int a0)]) rfl ?_
  refine XS.go (s_iloadn rfl rfl rfl) ?_
  refine XS.go (s_bipush (v := 48) rfl rfl) ?_
  refine r_icmp_lt (tgt := 16) rfl rfl (fun qc1 => ?_) (fun qc1 => ?_)
  · replace hf := xi_pos hf qc1
    refine XS.go (s_iconst (v := 0) rfl rfl) ?_
    cases hf
    exact XR.retz rfl rfl (by decide) (fun hret => ⟨_, hret, ⟨rfl, rfl⟩, L0⟩)
  · replace hf := xi_neg hf qc1
    refine XS.go (s_iloadn rfl rfl rfl) ?_
    refine XS.go (s_bipush (v := 57) rfl rfl) ?_
    refine r_icmp_gt (tgt := 16) rfl rfl (fun qc2 => ?_) (fun qc2 => ?_)
    · replace hf := xi_pos hf qc2
      refine XS.go (s_iconst (v := 0) rfl rfl) ?_
      cases hf
      exact XR.retz rfl rfl (by decide) (fun hret => ⟨_, hret, ⟨rfl, rfl⟩, L0⟩)
    · replace hf := xi_neg hf qc2
      refine XS.go (s_iconst (v := 1) rfl rfl) ?_
      refine XS.go (s_goto (tgt := 17) rfl rfl) ?_
      cases hf
      exact XR.retz rfl rfl (by decide) (fun hret => ⟨_, hret, ⟨rfl, rfl⟩, L0⟩)
def b_m_isLetter_30 (h : XH) : Option (Int32 × XH) := (some (1, h))
set_option maxRecDepth 20000 in
theorem kb_m_isLetter_30 {l : Launch} {G : XG} {d : Nat} {h : XH} {r : Int32 × XH} (L0 : LY h) (hf : b_m_isLetter_30 h = some r) : XR l G xEX12_isLetter d (30, [none], [], h) (fun C => ∃ v, xRet xEX12_isLetter C v ∧ (C.2.2.2 = r.2 ∧ v = some (.int r.1)) ∧ LY r.2) := by
  unfold b_m_isLetter_30 at hf
  refine XS.go (s_iconst (v := 1) rfl rfl) ?_
  refine XS.go (s_goto (tgt := 35) rfl rfl) ?_
  cases hf
  exact XR.retz rfl rfl (by decide) (fun hret => ⟨_, hret, ⟨rfl, rfl⟩, L0⟩)
def b_m_isLetter_24 (x0 : Int32) (h : XH) : Option (Int32 × XH) := (if ¬ x0 = 95 then (some (0, h)) else (b_m_isLetter_30 h))
set_option maxRecDepth 20000 in
theorem kb_m_isLetter_24 {l : Launch} {G : XG} {d : Nat} {x0 : Int32} {h : XH} {r : Int32 × XH} (L0 : LY h) (hf : b_m_isLetter_24 x0 h = some r) : XR l G xEX12_isLetter d (24, [some (.int x0)], [], h) (fun C => ∃ v, xRet xEX12_isLetter C v ∧ (C.2.2.2 = r.2 ∧ v = some (.int r.1)) ∧ LY r.2) := by
  unfold b_m_isLetter_24 at hf
  refine XS.go (s_iloadn rfl rfl rfl) ?_
  refine XS.go (s_bipush (v := 95) rfl rfl) ?_
  refine r_icmp_ne (tgt := 34) rfl rfl (fun qc1 => ?_) (fun qc1 => ?_)
  · replace hf := xi_pos hf qc1
    refine XS.go (s_iconst (v := 0) rfl rfl) ?_
    cases hf
    exact XR.retz rfl rfl (by decide) (fun hret => ⟨_, hret, ⟨rfl, rfl⟩, L0⟩)
  · replace hf := xi_neg hf qc1
    exact XR.forget (L2 := [none]) trivial (kb_m_isLetter_30 L0 hf)
def b_m_isLetter_12 (x0 : Int32) (h : XH) : Option (Int32 × XH) := (if x0 < 65 then (b_m_isLetter_24 x0 h) else (if x0 ≤ 90 then (b_m_isLetter_30 h) else (b_m_isLetter_24 x0 h)))
set_option maxRecDepth 20000 in
theorem kb_m_isLetter_12 {l : Launch} {G : XG} {d : Nat} {x0 : Int32} {h : XH} {r : Int32 × XH} (L0 : LY h) (hf : b_m_isLetter_12 x0 h = some r) : XR l G xEX12_isLetter d (12, [some (.int x0)], [], h) (fun C => ∃ v, xRet xEX12_isLetter C v ∧ (C.2.2.2 = r.2 ∧ v = some (.int r.1)) ∧ LY r.2) := by
  unfold b_m_isLetter_12 at hf
  refine XS.go (s_iloadn rfl rfl rfl) ?_
  refine XS.go (s_bipush (v := 65) rfl rfl) ?_
  refine r_icmp_lt (tgt := 24) rfl rfl (fun qc2 => ?_) (fun qc2 => ?_)
  · replace hf := xi_pos hf qc2
    exact XR.forget (L2 := [some (.int x0)]) ⟨rfl, trivial⟩ (kb_m_isLetter_24 L0 hf)
  · replace hf := xi_neg hf qc2
    refine XS.go (s_iloadn rfl rfl rfl) ?_
    refine XS.go (s_bipush (v := 90) rfl rfl) ?_
    refine r_icmp_le (tgt := 30) rfl rfl (fun qc3 => ?_) (fun qc3 => ?_)
    · replace hf := xi_pos hf qc3
      exact XR.forget (L2 := [none]) trivial (kb_m_isLetter_30 L0 hf)
    · replace hf := xi_neg hf qc3
      exact XR.forget (L2 := [some (.int x0)]) ⟨rfl, trivial⟩ (kb_m_isLetter_24 L0 hf)
def f_m_isLetter (a0 : Int32) (h : XH) : Option (Int32 × XH) := (if a0 < 97 then (b_m_isLetter_12 a0 h) else (if a0 ≤ 122 then (b_m_isLetter_30 h) else (b_m_isLetter_12 a0 h)))
set_option maxRecDepth 20000 in
theorem kf_m_isLetter {l : Launch} {G : XG} {d : Nat} {a0 : Int32} {h : XH} {r : Int32 × XH} (L0 : LY h) (hf : f_m_isLetter a0 h = some r) : XC l G xEX12_isLetter d [.int a0] h (fun v h2 => (h2 = r.2 ∧ v = some (.int r.1)) ∧ LY r.2) := by
  refine XC.stat xsX12_isLetter (Nat.le_of_ble_eq_true rfl) ?_
  unfold f_m_isLetter at hf
  refine XR.norm (L3 := [some (.int a0)]) rfl ?_
  refine XS.go (s_iloadn rfl rfl rfl) ?_
  refine XS.go (s_bipush (v := 97) rfl rfl) ?_
  refine r_icmp_lt (tgt := 12) rfl rfl (fun qc4 => ?_) (fun qc4 => ?_)
  · replace hf := xi_pos hf qc4
    exact XR.forget (L2 := [some (.int a0)]) ⟨rfl, trivial⟩ (kb_m_isLetter_12 L0 hf)
  · replace hf := xi_neg hf qc4
    refine XS.go (s_iloadn rfl rfl rfl) ?_
    refine XS.go (s_bipush (v := 122) rfl rfl) ?_
    refine r_icmp_le (tgt := 30) rfl rfl (fun qc5 => ?_) (fun qc5 => ?_)
    · replace hf := xi_pos hf qc5
      exact XR.forget (L2 := [none]) trivial (kb_m_isLetter_30 L0 hf)
    · replace hf := xi_neg hf qc5
      exact XR.forget (L2 := [some (.int a0)]) ⟨rfl, trivial⟩ (kb_m_isLetter_12 L0 hf)
def f_m_lexeme (a0 : Int32) (a1 : Int32) (a2 : Int32) (a3 : Int32) (h : XH) : Option (Unit × XH) := (if 0 ≤ (hi h 1262 12) ∧ (hi h 1262 12) < nI 4001 then (some ((), (hsi (hsi (hsi (hsi (hsi h 1266 (Int32.toNatClampNeg (hi h 1262 12)) a0) 1267 (Int32.toNatClampNeg (hi h 1262 12)) a1) 1268 (Int32.toNatClampNeg (hi h 1262 12)) a2) 1269 (Int32.toNatClampNeg (hi h 1262 12)) a3) 1262 12 ((hi h 1262 12) + 1)))) else none)
set_option maxRecDepth 20000 in
theorem kf_m_lexeme {l : Launch} {G : XG} {d : Nat} {a0 : Int32} {a1 : Int32} {a2 : Int32} {a3 : Int32} {h : XH} {r : Unit × XH} (L0 : LY h) (hf : f_m_lexeme a0 a1 a2 a3 h = some r) : XC l G xEX12_lexeme d [.ref 1262, .int a0, .int a1, .int a2, .int a3] h (fun v h2 => (h2 = r.2 ∧ v = none) ∧ LY r.2) := by
  refine XC.virt xvX12_lexeme (Nat.le_of_ble_eq_true rfl) ?_
  unfold f_m_lexeme at hf
  refine XR.norm (L3 := [some (.ref 1262), some (.int a0), some (.int a1), some (.int a2), some (.int a3)]) rfl ?_
  refine XS.go (s_aloadn rfl rfl rfl) ?_
  refine XS.go (s_getr rfl xf12_19 (LY.lt L0 (by decide)) (LY.k1262 L0) (by decide) rfl (LY.r1262_8 L0)) ?_
  refine XS.go (s_aloadn rfl rfl rfl) ?_
  refine XS.go (s_getie rfl xf12_184 (LY.lt L0 (by decide)) (LY.k1262 L0) (by decide) rfl rfl) ?_
  refine XS.go (s_iloadn rfl rfl rfl) ?_
  replace hf := xi_none hf
  obtain ⟨qk1, hf⟩ := hf
  refine XS.go (s_iast rfl (LY.lt L0 (by decide)) (LY.k1266 L0) (inLit (LY.n1266 L0) qk1.1 qk1.2 (by decide))) ?_
  refine XS.go (s_aloadn rfl rfl rfl) ?_
  refine XS.go (s_getr rfl xf12_22 (LY.lt (by simp only [LY_si, LY_sj]; exact L0) (by decide)) (LY.k1262 (by simp only [LY_si, LY_sj]; exact L0)) (by decide) rfl (LY.r1262_9 (by simp only [LY_si, LY_sj]; exact L0))) ?_
  refine XS.go (s_aloadn rfl rfl rfl) ?_
  refine XS.go (s_getie rfl xf12_184 (LY.lt (by simp only [LY_si, LY_sj]; exact L0) (by decide)) (LY.k1262 (by simp only [LY_si, LY_sj]; exact L0)) (by decide) rfl (hi_hsi_na (by decide))) ?_
  refine XS.go (s_iloadn rfl rfl rfl) ?_
  refine XS.go (s_iast rfl (LY.lt (by simp only [LY_si, LY_sj]; exact L0) (by decide)) (LY.k1267 (by simp only [LY_si, LY_sj]; exact L0)) (inLit (LY.n1267 (by simp only [LY_si, LY_sj]; exact L0)) qk1.1 qk1.2 (by decide))) ?_
  refine XS.go (s_aloadn rfl rfl rfl) ?_
  refine XS.go (s_getr rfl xf12_25 (LY.lt (by simp only [LY_si, LY_sj]; exact L0) (by decide)) (LY.k1262 (by simp only [LY_si, LY_sj]; exact L0)) (by decide) rfl (LY.r1262_10 (by simp only [LY_si, LY_sj]; exact L0))) ?_
  refine XS.go (s_aloadn rfl rfl rfl) ?_
  refine XS.go (s_getie rfl xf12_184 (LY.lt (by simp only [LY_si, LY_sj]; exact L0) (by decide)) (LY.k1262 (by simp only [LY_si, LY_sj]; exact L0)) (by decide) rfl ((hi_hsi_na (by decide)).trans (hi_hsi_na (by decide)))) ?_
  refine XS.go (s_iloadn rfl rfl rfl) ?_
  refine XS.go (s_iast rfl (LY.lt (by simp only [LY_si, LY_sj]; exact L0) (by decide)) (LY.k1268 (by simp only [LY_si, LY_sj]; exact L0)) (inLit (LY.n1268 (by simp only [LY_si, LY_sj]; exact L0)) qk1.1 qk1.2 (by decide))) ?_
  refine XS.go (s_aloadn rfl rfl rfl) ?_
  refine XS.go (s_getr rfl xf12_28 (LY.lt (by simp only [LY_si, LY_sj]; exact L0) (by decide)) (LY.k1262 (by simp only [LY_si, LY_sj]; exact L0)) (by decide) rfl (LY.r1262_11 (by simp only [LY_si, LY_sj]; exact L0))) ?_
  refine XS.go (s_aloadn rfl rfl rfl) ?_
  refine XS.go (s_getie rfl xf12_184 (LY.lt (by simp only [LY_si, LY_sj]; exact L0) (by decide)) (LY.k1262 (by simp only [LY_si, LY_sj]; exact L0)) (by decide) rfl ((hi_hsi_na (by decide)).trans ((hi_hsi_na (by decide)).trans (hi_hsi_na (by decide))))) ?_
  refine XS.go (s_iload rfl rfl) ?_
  refine XS.go (s_iast rfl (LY.lt (by simp only [LY_si, LY_sj]; exact L0) (by decide)) (LY.k1269 (by simp only [LY_si, LY_sj]; exact L0)) (inLit (LY.n1269 (by simp only [LY_si, LY_sj]; exact L0)) qk1.1 qk1.2 (by decide))) ?_
  refine XS.go (s_aloadn rfl rfl rfl) ?_
  refine XS.go (s_dup rfl rfl) ?_
  refine XS.go (s_getie rfl xf12_184 (LY.lt (by simp only [LY_si, LY_sj]; exact L0) (by decide)) (LY.k1262 (by simp only [LY_si, LY_sj]; exact L0)) (by decide) rfl ((hi_hsi_na (by decide)).trans ((hi_hsi_na (by decide)).trans ((hi_hsi_na (by decide)).trans (hi_hsi_na (by decide)))))) ?_
  refine XS.go (s_iconst (v := 1) rfl rfl) ?_
  refine XS.go (s_iadd rfl) ?_
  refine XS.go (s_puti rfl xf12_184 (LY.lt (by simp only [LY_si, LY_sj]; exact L0) (by decide)) (LY.k1262 (by simp only [LY_si, LY_sj]; exact L0)) (by decide) rfl (Or.inl rfl)) ?_
  cases hf
  exact XR.retv rfl rfl (fun hret => ⟨_, hret, ⟨rfl, rfl⟩, (by simp only [LY_si, LY_sj]; exact L0)⟩)
def b_m_sameName_88 (K41 : Int32 → Int32 → Int32 → Int32 → Int32 → XH → Option (Int32 × XH)) (x1 : Int32) (x2 : Int32) (x3 : Int32) (x5 : Int32) (y0 : Int32) (h : XH) : Option (Int32 × XH) := (K41 x1 x2 x3 y0 (x5 + 1) h)
set_option maxRecDepth 20000 in
theorem kb_m_sameName_88 {l : Launch} {G : XG} {d : Nat} {K41 : Int32 → Int32 → Int32 → Int32 → Int32 → XH → Option (Int32 × XH)} {x1 : Int32} {x2 : Int32} {x3 : Int32} {x5 : Int32} {y0 : Int32} {h : XH} {r : Int32 × XH} (hK41 : ∀ (x1 : Int32) (x2 : Int32) (x3 : Int32) (x4 : Int32) (x5 : Int32) (h : XH), LY h → K41 x1 x2 x3 x4 x5 h = some r → XR l G xEX12_sameName d (41, [some (.ref 1262), some (.int x1), some (.int x2), some (.int x3), some (.int x4), some (.int x5)], [], h) (fun C => ∃ v, xRet xEX12_sameName C v ∧ (C.2.2.2 = r.2 ∧ v = some (.int r.1)) ∧ LY r.2)) (L0 : LY h) (hf : b_m_sameName_88 K41 x1 x2 x3 x5 y0 h = some r) : XR l G xEX12_sameName d (88, [some (.ref 1262), some (.int x1), some (.int x2), some (.int x3), none, some (.int x5)], [(.int y0)], h) (fun C => ∃ v, xRet xEX12_sameName C v ∧ (C.2.2.2 = r.2 ∧ v = some (.int r.1)) ∧ LY r.2) := by
  unfold b_m_sameName_88 at hf
  refine XS.go (XS.lcl (L3 := [some (.ref 1262), some (.int x1), some (.int x2), some (.int x3), some (.int y0), some (.int x5)]) (s_istore rfl (Nat.le_of_ble_eq_true rfl)) rfl) ?_
  refine XS.go (XS.lcl (L3 := [some (.ref 1262), some (.int x1), some (.int x2), some (.int x3), some (.int y0), some (.int (x5 + 1))]) (s_inc rfl rfl (Nat.le_of_ble_eq_true rfl)) rfl) ?_
  refine XS.go (s_goto (tgt := 41) rfl rfl) ?_
  exact XR.forget (L2 := [some (.ref 1262), some (.int x1), some (.int x2), some (.int x3), some (.int y0), some (.int (x5 + 1))]) ⟨rfl, ⟨rfl, ⟨rfl, ⟨rfl, ⟨rfl, ⟨rfl, trivial⟩⟩⟩⟩⟩⟩ (hK41 x1 x2 x3 y0 (x5 + 1) _ L0 hf)
def s_m_sameName_41 (K41 : Int32 → Int32 → Int32 → Int32 → Int32 → XH → Option (Int32 × XH)) (x1 : Int32) (x2 : Int32) (x3 : Int32) (x4 : Int32) (x5 : Int32) (h : XH) : Option (Int32 × XH) := (if x3 ≤ x5 then (if x4 = 0 ∨ x4 = 1 then (some (x4, h)) else none) else (if x4 = 0 then (if x4 = 0 ∨ x4 = 1 then (some (x4, h)) else none) else (if 0 ≤ x1 ∧ x1 < nI 4001 then (if 0 ≤ ((hi h 1267 (Int32.toNatClampNeg x1)) + x5) ∧ ((hi h 1267 (Int32.toNatClampNeg x1)) + x5) < nI 4000 then (if 0 ≤ x2 ∧ x2 < nI 4001 then (if 0 ≤ ((hi h 1267 (Int32.toNatClampNeg x2)) + x5) ∧ ((hi h 1267 (Int32.toNatClampNeg x2)) + x5) < nI 4000 then (if ¬ (hi h 1264 (Int32.toNatClampNeg ((hi h 1267 (Int32.toNatClampNeg x1)) + x5))) = (hi h 1264 (Int32.toNatClampNeg ((hi h 1267 (Int32.toNatClampNeg x2)) + x5))) then (b_m_sameName_88 K41 x1 x2 x3 x5 0 h) else (b_m_sameName_88 K41 x1 x2 x3 x5 1 h)) else none) else none) else none) else none)))
set_option maxRecDepth 20000 in
theorem ks_m_sameName_41 {l : Launch} {G : XG} {d : Nat} {K41 : Int32 → Int32 → Int32 → Int32 → Int32 → XH → Option (Int32 × XH)} {x1 : Int32} {x2 : Int32} {x3 : Int32} {x4 : Int32} {x5 : Int32} {h : XH} {r : Int32 × XH} (hK41 : ∀ (x1 : Int32) (x2 : Int32) (x3 : Int32) (x4 : Int32) (x5 : Int32) (h : XH), LY h → K41 x1 x2 x3 x4 x5 h = some r → XR l G xEX12_sameName d (41, [some (.ref 1262), some (.int x1), some (.int x2), some (.int x3), some (.int x4), some (.int x5)], [], h) (fun C => ∃ v, xRet xEX12_sameName C v ∧ (C.2.2.2 = r.2 ∧ v = some (.int r.1)) ∧ LY r.2)) (L0 : LY h) (hf : s_m_sameName_41 K41 x1 x2 x3 x4 x5 h = some r) : XR l G xEX12_sameName d (41, [some (.ref 1262), some (.int x1), some (.int x2), some (.int x3), some (.int x4), some (.int x5)], [], h) (fun C => ∃ v, xRet xEX12_sameName C v ∧ (C.2.2.2 = r.2 ∧ v = some (.int r.1)) ∧ LY r.2) := by
  unfold s_m_sameName_41 at hf
  refine XS.go (s_iload rfl rfl) ?_
  refine XS.go (s_iloadn rfl rfl rfl) ?_
  refine r_icmp_ge (tgt := 96) rfl rfl (fun qc1 => ?_) (fun qc1 => ?_)
  · replace hf := xi_pos hf qc1
    refine XS.go (s_iload rfl rfl) ?_
    replace hf := xi_none hf
    obtain ⟨qk2, hf⟩ := hf
    cases hf
    exact XR.retz rfl rfl qk2 (fun hret => ⟨_, hret, ⟨rfl, rfl⟩, L0⟩)
  · replace hf := xi_neg hf qc1
    refine XS.go (s_iload rfl rfl) ?_
    refine r_if_eq (tgt := 96) rfl rfl (fun qc3 => ?_) (fun qc3 => ?_)
    · replace hf := xi_pos hf qc3
      refine XS.go (s_iload rfl rfl) ?_
      replace hf := xi_none hf
      obtain ⟨qk4, hf⟩ := hf
      cases hf
      exact XR.retz rfl rfl qk4 (fun hret => ⟨_, hret, ⟨rfl, rfl⟩, L0⟩)
    · replace hf := xi_neg hf qc3
      refine XS.go (s_aloadn rfl rfl rfl) ?_
      refine XS.go (s_getr rfl xf12_13 (LY.lt L0 (by decide)) (LY.k1262 L0) (by decide) rfl (LY.r1262_3 L0)) ?_
      refine XS.go (s_aloadn rfl rfl rfl) ?_
      refine XS.go (s_getr rfl xf12_22 (LY.lt L0 (by decide)) (LY.k1262 L0) (by decide) rfl (LY.r1262_9 L0)) ?_
      refine XS.go (s_iloadn rfl rfl rfl) ?_
      replace hf := xi_none hf
      obtain ⟨qk5, hf⟩ := hf
      refine XS.go (s_ialde rfl (LY.lt L0 (by decide)) (LY.k1267 L0) (inLit (LY.n1267 L0) qk5.1 qk5.2 (by decide)) rfl) ?_
      refine XS.go (s_iload rfl rfl) ?_
      refine XS.go (s_iadd rfl) ?_
      replace hf := xi_none hf
      obtain ⟨qk6, hf⟩ := hf
      refine XS.go (s_ialde rfl (LY.lt L0 (by decide)) (LY.k1264 L0) (inLit (LY.n1264 L0) qk6.1 qk6.2 (by decide)) rfl) ?_
      refine XS.go (s_aloadn rfl rfl rfl) ?_
      refine XS.go (s_getr rfl xf12_13 (LY.lt L0 (by decide)) (LY.k1262 L0) (by decide) rfl (LY.r1262_3 L0)) ?_
      refine XS.go (s_aloadn rfl rfl rfl) ?_
      refine XS.go (s_getr rfl xf12_22 (LY.lt L0 (by decide)) (LY.k1262 L0) (by decide) rfl (LY.r1262_9 L0)) ?_
      refine XS.go (s_iloadn rfl rfl rfl) ?_
      replace hf := xi_none hf
      obtain ⟨qk7, hf⟩ := hf
      refine XS.go (s_ialde rfl (LY.lt L0 (by decide)) (LY.k1267 L0) (inLit (LY.n1267 L0) qk7.1 qk7.2 (by decide)) rfl) ?_
      refine XS.go (s_iload rfl rfl) ?_
      refine XS.go (s_iadd rfl) ?_
      replace hf := xi_none hf
      obtain ⟨qk8, hf⟩ := hf
      refine XS.go (s_ialde rfl (LY.lt L0 (by decide)) (LY.k1264 L0) (inLit (LY.n1264 L0) qk8.1 qk8.2 (by decide)) rfl) ?_
      refine r_icmp_ne (tgt := 87) rfl rfl (fun qc9 => ?_) (fun qc9 => ?_)
      · replace hf := xi_pos hf qc9
        refine XS.go (s_iconst (v := 0) rfl rfl) ?_
        exact XR.forget (L2 := [some (.ref 1262), some (.int x1), some (.int x2), some (.int x3), none, some (.int x5)]) ⟨rfl, ⟨rfl, ⟨rfl, ⟨rfl, ⟨rfl, trivial⟩⟩⟩⟩⟩ (kb_m_sameName_88 hK41 L0 hf)
      · replace hf := xi_neg hf qc9
        refine XS.go (s_iconst (v := 1) rfl rfl) ?_
        refine XS.go (s_goto (tgt := 88) rfl rfl) ?_
        exact XR.forget (L2 := [some (.ref 1262), some (.int x1), some (.int x2), some (.int x3), none, some (.int x5)]) ⟨rfl, ⟨rfl, ⟨rfl, ⟨rfl, ⟨rfl, trivial⟩⟩⟩⟩⟩ (kb_m_sameName_88 hK41 L0 hf)
def b_m_sameName_41 : Nat → Int32 → Int32 → Int32 → Int32 → Int32 → XH → Option (Int32 × XH)
  | 0, _, _, _, _, _, _ => none
  | n + 1, x1, x2, x3, x4, x5, h => s_m_sameName_41 (b_m_sameName_41 n) x1 x2 x3 x4 x5 h
theorem kb_m_sameName_41 {l : Launch} {G : XG} {d : Nat} {n : Nat} {x1 : Int32} {x2 : Int32} {x3 : Int32} {x4 : Int32} {x5 : Int32} {h : XH} {r : Int32 × XH} (L0 : LY h) (hf : b_m_sameName_41 n x1 x2 x3 x4 x5 h = some r) : XR l G xEX12_sameName d (41, [some (.ref 1262), some (.int x1), some (.int x2), some (.int x3), some (.int x4), some (.int x5)], [], h) (fun C => ∃ v, xRet xEX12_sameName C v ∧ (C.2.2.2 = r.2 ∧ v = some (.int r.1)) ∧ LY r.2) := by
  induction n generalizing x1 x2 x3 x4 x5 h with
  | zero => cases hf
  | succ n ih => exact ks_m_sameName_41 (fun x1 x2 x3 x4 x5 h L0 hf => ih (h := h) (x1 := x1) (x2 := x2) (x3 := x3) (x4 := x4) (x5 := x5) L0 hf) L0 hf
def b_m_sameName_36 (x1 : Int32) (x2 : Int32) (x3 : Int32) (y0 : Int32) (h : XH) : Option (Int32 × XH) := (b_m_sameName_41 100000 x1 x2 x3 y0 0 h)
set_option maxRecDepth 20000 in
theorem kb_m_sameName_36 {l : Launch} {G : XG} {d : Nat} {x1 : Int32} {x2 : Int32} {x3 : Int32} {y0 : Int32} {h : XH} {r : Int32 × XH} (L0 : LY h) (hf : b_m_sameName_36 x1 x2 x3 y0 h = some r) : XR l G xEX12_sameName d (36, [some (.ref 1262), some (.int x1), some (.int x2), some (.int x3), none, none], [(.int y0)], h) (fun C => ∃ v, xRet xEX12_sameName C v ∧ (C.2.2.2 = r.2 ∧ v = some (.int r.1)) ∧ LY r.2) := by
  unfold b_m_sameName_36 at hf
  refine XS.go (XS.lcl (L3 := [some (.ref 1262), some (.int x1), some (.int x2), some (.int x3), some (.int y0), none]) (s_istore rfl (Nat.le_of_ble_eq_true rfl)) rfl) ?_
  refine XS.go (s_iconst (v := 0) rfl rfl) ?_
  refine XS.go (XS.lcl (L3 := [some (.ref 1262), some (.int x1), some (.int x2), some (.int x3), some (.int y0), some (.int 0)]) (s_istore rfl (Nat.le_of_ble_eq_true rfl)) rfl) ?_
  exact XR.forget (L2 := [some (.ref 1262), some (.int x1), some (.int x2), some (.int x3), some (.int y0), some (.int 0)]) ⟨rfl, ⟨rfl, ⟨rfl, ⟨rfl, ⟨rfl, ⟨rfl, trivial⟩⟩⟩⟩⟩⟩ (kb_m_sameName_41 L0 hf)
def f_m_sameName (a0 : Int32) (a1 : Int32) (h : XH) : Option (Int32 × XH) := (if 0 ≤ a0 ∧ a0 < nI 4001 then (if 0 ≤ a1 ∧ a1 < nI 4001 then (if ¬ ((hi h 1268 (Int32.toNatClampNeg a0)) - (hi h 1267 (Int32.toNatClampNeg a0))) = ((hi h 1268 (Int32.toNatClampNeg a1)) - (hi h 1267 (Int32.toNatClampNeg a1))) then (b_m_sameName_36 a0 a1 ((hi h 1268 (Int32.toNatClampNeg a0)) - (hi h 1267 (Int32.toNatClampNeg a0))) 0 h) else (b_m_sameName_36 a0 a1 ((hi h 1268 (Int32.toNatClampNeg a0)) - (hi h 1267 (Int32.toNatClampNeg a0))) 1 h)) else none) else none)
set_option maxRecDepth 20000 in
theorem kf_m_sameName {l : Launch} {G : XG} {d : Nat} {a0 : Int32} {a1 : Int32} {h : XH} {r : Int32 × XH} (L0 : LY h) (hf : f_m_sameName a0 a1 h = some r) : XC l G xEX12_sameName d [.ref 1262, .int a0, .int a1] h (fun v h2 => (h2 = r.2 ∧ v = some (.int r.1)) ∧ LY r.2) := by
  refine XC.virt xvX12_sameName (Nat.le_of_ble_eq_true rfl) ?_
  unfold f_m_sameName at hf
  refine XR.norm (L3 := [some (.ref 1262), some (.int a0), some (.int a1), none, none, none]) rfl ?_
  refine XS.go (s_aloadn rfl rfl rfl) ?_
  refine XS.go (s_getr rfl xf12_25 (LY.lt L0 (by decide)) (LY.k1262 L0) (by decide) rfl (LY.r1262_10 L0)) ?_
  refine XS.go (s_iloadn rfl rfl rfl) ?_
  replace hf := xi_none hf
  obtain ⟨qk10, hf⟩ := hf
  refine XS.go (s_ialde rfl (LY.lt L0 (by decide)) (LY.k1268 L0) (inLit (LY.n1268 L0) qk10.1 qk10.2 (by decide)) rfl) ?_
  refine XS.go (s_aloadn rfl rfl rfl) ?_
  refine XS.go (s_getr rfl xf12_22 (LY.lt L0 (by decide)) (LY.k1262 L0) (by decide) rfl (LY.r1262_9 L0)) ?_
  refine XS.go (s_iloadn rfl rfl rfl) ?_
  refine XS.go (s_ialde rfl (LY.lt L0 (by decide)) (LY.k1267 L0) (inLit (LY.n1267 L0) qk10.1 qk10.2 (by decide)) rfl) ?_
  refine XS.go (s_isub rfl) ?_
  refine XS.go (XS.lcl (L3 := [some (.ref 1262), some (.int a0), some (.int a1), some (.int ((hi h 1268 (Int32.toNatClampNeg a0)) - (hi h 1267 (Int32.toNatClampNeg a0)))), none, none]) (s_istoren rfl rfl (Nat.le_of_ble_eq_true rfl)) rfl) ?_
  refine XS.go (s_iloadn rfl rfl rfl) ?_
  refine XS.go (s_aloadn rfl rfl rfl) ?_
  refine XS.go (s_getr rfl xf12_25 (LY.lt L0 (by decide)) (LY.k1262 L0) (by decide) rfl (LY.r1262_10 L0)) ?_
  refine XS.go (s_iloadn rfl rfl rfl) ?_
  replace hf := xi_none hf
  obtain ⟨qk11, hf⟩ := hf
  refine XS.go (s_ialde rfl (LY.lt L0 (by decide)) (LY.k1268 L0) (inLit (LY.n1268 L0) qk11.1 qk11.2 (by decide)) rfl) ?_
  refine XS.go (s_aloadn rfl rfl rfl) ?_
  refine XS.go (s_getr rfl xf12_22 (LY.lt L0 (by decide)) (LY.k1262 L0) (by decide) rfl (LY.r1262_9 L0)) ?_
  refine XS.go (s_iloadn rfl rfl rfl) ?_
  refine XS.go (s_ialde rfl (LY.lt L0 (by decide)) (LY.k1267 L0) (inLit (LY.n1267 L0) qk11.1 qk11.2 (by decide)) rfl) ?_
  refine XS.go (s_isub rfl) ?_
  refine r_icmp_ne (tgt := 35) rfl rfl (fun qc12 => ?_) (fun qc12 => ?_)
  · replace hf := xi_pos hf qc12
    refine XS.go (s_iconst (v := 0) rfl rfl) ?_
    exact XR.forget (L2 := [some (.ref 1262), some (.int a0), some (.int a1), some (.int ((hi h 1268 (Int32.toNatClampNeg a0)) - (hi h 1267 (Int32.toNatClampNeg a0)))), none, none]) ⟨rfl, ⟨rfl, ⟨rfl, ⟨rfl, trivial⟩⟩⟩⟩ (kb_m_sameName_36 L0 hf)
  · replace hf := xi_neg hf qc12
    refine XS.go (s_iconst (v := 1) rfl rfl) ?_
    refine XS.go (s_goto (tgt := 36) rfl rfl) ?_
    exact XR.forget (L2 := [some (.ref 1262), some (.int a0), some (.int a1), some (.int ((hi h 1268 (Int32.toNatClampNeg a0)) - (hi h 1267 (Int32.toNatClampNeg a0)))), none, none]) ⟨rfl, ⟨rfl, ⟨rfl, ⟨rfl, trivial⟩⟩⟩⟩ (kb_m_sameName_36 L0 hf)
def f_m_flaw (a0 : Int32) (h : XH) : Option (Unit × XH) := (if ¬ (hi h 1262 14) = 0 then (some ((), h)) else (if 0 ≤ (hi h 1262 13) ∧ (hi h 1262 13) < nI 4001 then (some ((), (hsi (hsi h 1262 14 a0) 1262 15 (hi h 1267 (Int32.toNatClampNeg (hi h 1262 13)))))) else none))
set_option maxRecDepth 20000 in
theorem kf_m_flaw {l : Launch} {G : XG} {d : Nat} {a0 : Int32} {h : XH} {r : Unit × XH} (L0 : LY h) (hf : f_m_flaw a0 h = some r) : XC l G xEX12_flaw d [.ref 1262, .int a0] h (fun v h2 => (h2 = r.2 ∧ v = none) ∧ LY r.2) := by
  refine XC.virt xvX12_flaw (Nat.le_of_ble_eq_true rfl) ?_
  unfold f_m_flaw at hf
  refine XR.norm (L3 := [some (.ref 1262), some (.int a0)]) rfl ?_
  refine XS.go (s_aloadn rfl rfl rfl) ?_
  refine XS.go (s_getie rfl xf12_221 (LY.lt L0 (by decide)) (LY.k1262 L0) (by decide) rfl rfl) ?_
  refine r_if_ne (tgt := 25) rfl rfl (fun qc1 => ?_) (fun qc1 => ?_)
  · replace hf := xi_pos hf qc1
    cases hf
    exact XR.retv rfl rfl (fun hret => ⟨_, hret, ⟨rfl, rfl⟩, L0⟩)
  · replace hf := xi_neg hf qc1
    refine XS.go (s_aloadn rfl rfl rfl) ?_
    refine XS.go (s_iloadn rfl rfl rfl) ?_
    refine XS.go (s_puti rfl xf12_221 (LY.lt L0 (by decide)) (LY.k1262 L0) (by decide) rfl (Or.inl rfl)) ?_
    refine XS.go (s_aloadn rfl rfl rfl) ?_
    refine XS.go (s_aloadn rfl rfl rfl) ?_
    refine XS.go (s_getr rfl xf12_22 (LY.lt (by simp only [LY_si, LY_sj]; exact L0) (by decide)) (LY.k1262 (by simp only [LY_si, LY_sj]; exact L0)) (by decide) rfl (LY.r1262_9 (by simp only [LY_si, LY_sj]; exact L0))) ?_
    refine XS.go (s_aloadn rfl rfl rfl) ?_
    refine XS.go (s_getie rfl xf12_224 (LY.lt (by simp only [LY_si, LY_sj]; exact L0) (by decide)) (LY.k1262 (by simp only [LY_si, LY_sj]; exact L0)) (by decide) rfl (hi_hsi_nk (by decide))) ?_
    replace hf := xi_none hf
    obtain ⟨qk2, hf⟩ := hf
    refine XS.go (s_ialde rfl (LY.lt (by simp only [LY_si, LY_sj]; exact L0) (by decide)) (LY.k1267 (by simp only [LY_si, LY_sj]; exact L0)) (inLit (LY.n1267 (by simp only [LY_si, LY_sj]; exact L0)) qk2.1 qk2.2 (by decide)) (hi_hsi_na (by decide))) ?_
    refine XS.go (s_puti rfl xf12_227 (LY.lt (by simp only [LY_si, LY_sj]; exact L0) (by decide)) (LY.k1262 (by simp only [LY_si, LY_sj]; exact L0)) (by decide) rfl (Or.inl rfl)) ?_
    cases hf
    exact XR.retv rfl rfl (fun hret => ⟨_, hret, ⟨rfl, rfl⟩, (by simp only [LY_si, LY_sj]; exact L0)⟩)
def b_m_misfit_19 (y1 : Int32) (h : XH) : Option (Unit × XH) := (Option.bind (f_m_flaw y1 h) fun r1 => (some ((), r1.2)))
set_option maxRecDepth 20000 in
theorem kb_m_misfit_19 {l : Launch} {G : XG} {d : Nat} {y1 : Int32} {h : XH} {r : Unit × XH} (L0 : LY h) (hf : b_m_misfit_19 y1 h = some r) : XR l G xEX12_misfit (d + 1) (19, [none], [(.int y1), (.ref 1262)], h) (fun C => ∃ v, xRet xEX12_misfit C v ∧ (C.2.2.2 = r.2 ∧ v = none) ∧ LY r.2) := by
  unfold b_m_misfit_19 at hf
  replace hf := xb_some hf
  obtain ⟨r1, e2, hf⟩ := hf
  refine r_callv rfl xvX12_flaw xm12_230 (kf_m_flaw (d := d) L0 e2) (LY.lt L0 (by decide)) (LY.k1262 L0) (by decide) rfl rfl (dl0 (by decide)) (by decide) (Nat.le_of_ble_eq_true rfl) ?_
  rintro _ _ ⟨⟨rfl, rfl⟩, L3⟩
  cases hf
  exact XR.retv rfl rfl (fun hret => ⟨_, hret, ⟨rfl, rfl⟩, L3⟩)
def f_m_misfit (h : XH) : Option (Unit × XH) := (if 0 ≤ (hi h 1262 13) ∧ (hi h 1262 13) < nI 4001 then (if ¬ (hi h 1266 (Int32.toNatClampNeg (hi h 1262 13))) = 1 then (b_m_misfit_19 2 h) else (b_m_misfit_19 1 h)) else none)
set_option maxRecDepth 20000 in
theorem kf_m_misfit {l : Launch} {G : XG} {d : Nat} {h : XH} {r : Unit × XH} (L0 : LY h) (hf : f_m_misfit h = some r) : XC l G xEX12_misfit (d + 1) [.ref 1262] h (fun v h2 => (h2 = r.2 ∧ v = none) ∧ LY r.2) := by
  refine XC.virt xvX12_misfit (Nat.le_of_ble_eq_true rfl) ?_
  unfold f_m_misfit at hf
  refine XR.norm (L3 := [some (.ref 1262)]) rfl ?_
  refine XS.go (s_aloadn rfl rfl rfl) ?_
  refine XS.go (s_aloadn rfl rfl rfl) ?_
  refine XS.go (s_getr rfl xf12_19 (LY.lt L0 (by decide)) (LY.k1262 L0) (by decide) rfl (LY.r1262_8 L0)) ?_
  refine XS.go (s_aloadn rfl rfl rfl) ?_
  refine XS.go (s_getie rfl xf12_224 (LY.lt L0 (by decide)) (LY.k1262 L0) (by decide) rfl rfl) ?_
  replace hf := xi_none hf
  obtain ⟨qk4, hf⟩ := hf
  refine XS.go (s_ialde rfl (LY.lt L0 (by decide)) (LY.k1266 L0) (inLit (LY.n1266 L0) qk4.1 qk4.2 (by decide)) rfl) ?_
  refine XS.go (s_iconst (v := 1) rfl rfl) ?_
  refine r_icmp_ne (tgt := 18) rfl rfl (fun qc5 => ?_) (fun qc5 => ?_)
  · replace hf := xi_pos hf qc5
    refine XS.go (s_iconst (v := 2) rfl rfl) ?_
    exact XR.forget (L2 := [none]) trivial (kb_m_misfit_19 L0 hf)
  · replace hf := xi_neg hf qc5
    refine XS.go (s_iconst (v := 1) rfl rfl) ?_
    refine XS.go (s_goto (tgt := 19) rfl rfl) ?_
    exact XR.forget (L2 := [none]) trivial (kb_m_misfit_19 L0 hf)
def f_m_isSign (a0 : Int32) (h : XH) : Option (Int32 × XH) := (if ¬ (hi h 1262 14) = 0 then (some (0, h)) else (if 0 ≤ (hi h 1262 13) ∧ (hi h 1262 13) < nI 4001 then (if ¬ (hi h 1266 (Int32.toNatClampNeg (hi h 1262 13))) = 4 then (some (0, h)) else (if ¬ (hi h 1269 (Int32.toNatClampNeg (hi h 1262 13))) = a0 then (some (0, h)) else (some (1, h)))) else none))
set_option maxRecDepth 20000 in
theorem kf_m_isSign {l : Launch} {G : XG} {d : Nat} {a0 : Int32} {h : XH} {r : Int32 × XH} (L0 : LY h) (hf : f_m_isSign a0 h = some r) : XC l G xEX12_isSign d [.ref 1262, .int a0] h (fun v h2 => (h2 = r.2 ∧ v = some (.int r.1)) ∧ LY r.2) := by
  refine XC.virt xvX12_isSign (Nat.le_of_ble_eq_true rfl) ?_
  unfold f_m_isSign at hf
  refine XR.norm (L3 := [some (.ref 1262), some (.int a0)]) rfl ?_
  refine XS.go (s_aloadn rfl rfl rfl) ?_
  refine XS.go (s_getie rfl xf12_221 (LY.lt L0 (by decide)) (LY.k1262 L0) (by decide) rfl rfl) ?_
  refine r_if_ne (tgt := 37) rfl rfl (fun qc1 => ?_) (fun qc1 => ?_)
  · replace hf := xi_pos hf qc1
    refine XS.go (s_iconst (v := 0) rfl rfl) ?_
    cases hf
    exact XR.retz rfl rfl (by decide) (fun hret => ⟨_, hret, ⟨rfl, rfl⟩, L0⟩)
  · replace hf := xi_neg hf qc1
    refine XS.go (s_aloadn rfl rfl rfl) ?_
    refine XS.go (s_getr rfl xf12_19 (LY.lt L0 (by decide)) (LY.k1262 L0) (by decide) rfl (LY.r1262_8 L0)) ?_
    refine XS.go (s_aloadn rfl rfl rfl) ?_
    refine XS.go (s_getie rfl xf12_224 (LY.lt L0 (by decide)) (LY.k1262 L0) (by decide) rfl rfl) ?_
    replace hf := xi_none hf
    obtain ⟨qk2, hf⟩ := hf
    refine XS.go (s_ialde rfl (LY.lt L0 (by decide)) (LY.k1266 L0) (inLit (LY.n1266 L0) qk2.1 qk2.2 (by decide)) rfl) ?_
    refine XS.go (s_iconst (v := 4) rfl rfl) ?_
    refine r_icmp_ne (tgt := 37) rfl rfl (fun qc3 => ?_) (fun qc3 => ?_)
    · replace hf := xi_pos hf qc3
      refine XS.go (s_iconst (v := 0) rfl rfl) ?_
      cases hf
      exact XR.retz rfl rfl (by decide) (fun hret => ⟨_, hret, ⟨rfl, rfl⟩, L0⟩)
    · replace hf := xi_neg hf qc3
      refine XS.go (s_aloadn rfl rfl rfl) ?_
      refine XS.go (s_getr rfl xf12_28 (LY.lt L0 (by decide)) (LY.k1262 L0) (by decide) rfl (LY.r1262_11 L0)) ?_
      refine XS.go (s_aloadn rfl rfl rfl) ?_
      refine XS.go (s_getie rfl xf12_224 (LY.lt L0 (by decide)) (LY.k1262 L0) (by decide) rfl rfl) ?_
      refine XS.go (s_ialde rfl (LY.lt L0 (by decide)) (LY.k1269 L0) (inLit (LY.n1269 L0) qk2.1 qk2.2 (by decide)) rfl) ?_
      refine XS.go (s_iloadn rfl rfl rfl) ?_
      refine r_icmp_ne (tgt := 37) rfl rfl (fun qc4 => ?_) (fun qc4 => ?_)
      · replace hf := xi_pos hf qc4
        refine XS.go (s_iconst (v := 0) rfl rfl) ?_
        cases hf
        exact XR.retz rfl rfl (by decide) (fun hret => ⟨_, hret, ⟨rfl, rfl⟩, L0⟩)
      · replace hf := xi_neg hf qc4
        refine XS.go (s_iconst (v := 1) rfl rfl) ?_
        refine XS.go (s_goto (tgt := 38) rfl rfl) ?_
        cases hf
        exact XR.retz rfl rfl (by decide) (fun hret => ⟨_, hret, ⟨rfl, rfl⟩, L0⟩)
def f_m_isWord (a0 : Int32) (h : XH) : Option (Int32 × XH) := (if ¬ (hi h 1262 14) = 0 then (some (0, h)) else (if 0 ≤ (hi h 1262 13) ∧ (hi h 1262 13) < nI 4001 then (if ¬ (hi h 1266 (Int32.toNatClampNeg (hi h 1262 13))) = 2 then (some (0, h)) else (if ¬ (hi h 1269 (Int32.toNatClampNeg (hi h 1262 13))) = a0 then (some (0, h)) else (some (1, h)))) else none))
set_option maxRecDepth 20000 in
theorem kf_m_isWord {l : Launch} {G : XG} {d : Nat} {a0 : Int32} {h : XH} {r : Int32 × XH} (L0 : LY h) (hf : f_m_isWord a0 h = some r) : XC l G xEX12_isWord d [.ref 1262, .int a0] h (fun v h2 => (h2 = r.2 ∧ v = some (.int r.1)) ∧ LY r.2) := by
  refine XC.virt xvX12_isWord (Nat.le_of_ble_eq_true rfl) ?_
  unfold f_m_isWord at hf
  refine XR.norm (L3 := [some (.ref 1262), some (.int a0)]) rfl ?_
  refine XS.go (s_aloadn rfl rfl rfl) ?_
  refine XS.go (s_getie rfl xf12_221 (LY.lt L0 (by decide)) (LY.k1262 L0) (by decide) rfl rfl) ?_
  refine r_if_ne (tgt := 37) rfl rfl (fun qc1 => ?_) (fun qc1 => ?_)
  · replace hf := xi_pos hf qc1
    refine XS.go (s_iconst (v := 0) rfl rfl) ?_
    cases hf
    exact XR.retz rfl rfl (by decide) (fun hret => ⟨_, hret, ⟨rfl, rfl⟩, L0⟩)
  · replace hf := xi_neg hf qc1
    refine XS.go (s_aloadn rfl rfl rfl) ?_
    refine XS.go (s_getr rfl xf12_19 (LY.lt L0 (by decide)) (LY.k1262 L0) (by decide) rfl (LY.r1262_8 L0)) ?_
    refine XS.go (s_aloadn rfl rfl rfl) ?_
    refine XS.go (s_getie rfl xf12_224 (LY.lt L0 (by decide)) (LY.k1262 L0) (by decide) rfl rfl) ?_
    replace hf := xi_none hf
    obtain ⟨qk2, hf⟩ := hf
    refine XS.go (s_ialde rfl (LY.lt L0 (by decide)) (LY.k1266 L0) (inLit (LY.n1266 L0) qk2.1 qk2.2 (by decide)) rfl) ?_
    refine XS.go (s_iconst (v := 2) rfl rfl) ?_
    refine r_icmp_ne (tgt := 37) rfl rfl (fun qc3 => ?_) (fun qc3 => ?_)
    · replace hf := xi_pos hf qc3
      refine XS.go (s_iconst (v := 0) rfl rfl) ?_
      cases hf
      exact XR.retz rfl rfl (by decide) (fun hret => ⟨_, hret, ⟨rfl, rfl⟩, L0⟩)
    · replace hf := xi_neg hf qc3
      refine XS.go (s_aloadn rfl rfl rfl) ?_
      refine XS.go (s_getr rfl xf12_28 (LY.lt L0 (by decide)) (LY.k1262 L0) (by decide) rfl (LY.r1262_11 L0)) ?_
      refine XS.go (s_aloadn rfl rfl rfl) ?_
      refine XS.go (s_getie rfl xf12_224 (LY.lt L0 (by decide)) (LY.k1262 L0) (by decide) rfl rfl) ?_
      refine XS.go (s_ialde rfl (LY.lt L0 (by decide)) (LY.k1269 L0) (inLit (LY.n1269 L0) qk2.1 qk2.2 (by decide)) rfl) ?_
      refine XS.go (s_iloadn rfl rfl rfl) ?_
      refine r_icmp_ne (tgt := 37) rfl rfl (fun qc4 => ?_) (fun qc4 => ?_)
      · replace hf := xi_pos hf qc4
        refine XS.go (s_iconst (v := 0) rfl rfl) ?_
        cases hf
        exact XR.retz rfl rfl (by decide) (fun hret => ⟨_, hret, ⟨rfl, rfl⟩, L0⟩)
      · replace hf := xi_neg hf qc4
        refine XS.go (s_iconst (v := 1) rfl rfl) ?_
        refine XS.go (s_goto (tgt := 38) rfl rfl) ?_
        cases hf
        exact XR.retz rfl rfl (by decide) (fun hret => ⟨_, hret, ⟨rfl, rfl⟩, L0⟩)
def f_m_isScalar (h : XH) : Option (Int32 × XH) := (if ¬ (hi h 1262 14) = 0 then (some (0, h)) else (if 0 ≤ (hi h 1262 13) ∧ (hi h 1262 13) < nI 4001 then (if ¬ (hi h 1266 (Int32.toNatClampNeg (hi h 1262 13))) = 2 then (some (0, h)) else (if (hi h 1269 (Int32.toNatClampNeg (hi h 1262 13))) < 0 then (some (0, h)) else (if 11 ≤ (hi h 1269 (Int32.toNatClampNeg (hi h 1262 13))) then (some (0, h)) else (some (1, h))))) else none))
set_option maxRecDepth 20000 in
theorem kf_m_isScalar {l : Launch} {G : XG} {d : Nat} {h : XH} {r : Int32 × XH} (L0 : LY h) (hf : f_m_isScalar h = some r) : XC l G xEX12_isScalar d [.ref 1262] h (fun v h2 => (h2 = r.2 ∧ v = some (.int r.1)) ∧ LY r.2) := by
  refine XC.virt xvX12_isScalar (Nat.le_of_ble_eq_true rfl) ?_
  unfold f_m_isScalar at hf
  refine XR.norm (L3 := [some (.ref 1262)]) rfl ?_
  refine XS.go (s_aloadn rfl rfl rfl) ?_
  refine XS.go (s_getie rfl xf12_221 (LY.lt L0 (by decide)) (LY.k1262 L0) (by decide) rfl rfl) ?_
  refine r_if_ne (tgt := 50) rfl rfl (fun qc1 => ?_) (fun qc1 => ?_)
  · replace hf := xi_pos hf qc1
    refine XS.go (s_iconst (v := 0) rfl rfl) ?_
    cases hf
    exact XR.retz rfl rfl (by decide) (fun hret => ⟨_, hret, ⟨rfl, rfl⟩, L0⟩)
  · replace hf := xi_neg hf qc1
    refine XS.go (s_aloadn rfl rfl rfl) ?_
    refine XS.go (s_getr rfl xf12_19 (LY.lt L0 (by decide)) (LY.k1262 L0) (by decide) rfl (LY.r1262_8 L0)) ?_
    refine XS.go (s_aloadn rfl rfl rfl) ?_
    refine XS.go (s_getie rfl xf12_224 (LY.lt L0 (by decide)) (LY.k1262 L0) (by decide) rfl rfl) ?_
    replace hf := xi_none hf
    obtain ⟨qk2, hf⟩ := hf
    refine XS.go (s_ialde rfl (LY.lt L0 (by decide)) (LY.k1266 L0) (inLit (LY.n1266 L0) qk2.1 qk2.2 (by decide)) rfl) ?_
    refine XS.go (s_iconst (v := 2) rfl rfl) ?_
    refine r_icmp_ne (tgt := 50) rfl rfl (fun qc3 => ?_) (fun qc3 => ?_)
    · replace hf := xi_pos hf qc3
      refine XS.go (s_iconst (v := 0) rfl rfl) ?_
      cases hf
      exact XR.retz rfl rfl (by decide) (fun hret => ⟨_, hret, ⟨rfl, rfl⟩, L0⟩)
    · replace hf := xi_neg hf qc3
      refine XS.go (s_aloadn rfl rfl rfl) ?_
      refine XS.go (s_getr rfl xf12_28 (LY.lt L0 (by decide)) (LY.k1262 L0) (by decide) rfl (LY.r1262_11 L0)) ?_
      refine XS.go (s_aloadn rfl rfl rfl) ?_
      refine XS.go (s_getie rfl xf12_224 (LY.lt L0 (by decide)) (LY.k1262 L0) (by decide) rfl rfl) ?_
      refine XS.go (s_ialde rfl (LY.lt L0 (by decide)) (LY.k1269 L0) (inLit (LY.n1269 L0) qk2.1 qk2.2 (by decide)) rfl) ?_
      refine r_if_lt (tgt := 50) rfl rfl (fun qc4 => ?_) (fun qc4 => ?_)
      · replace hf := xi_pos hf qc4
        refine XS.go (s_iconst (v := 0) rfl rfl) ?_
        cases hf
        exact XR.retz rfl rfl (by decide) (fun hret => ⟨_, hret, ⟨rfl, rfl⟩, L0⟩)
      · replace hf := xi_neg hf qc4
        refine XS.go (s_aloadn rfl rfl rfl) ?_
        refine XS.go (s_getr rfl xf12_28 (LY.lt L0 (by decide)) (LY.k1262 L0) (by decide) rfl (LY.r1262_11 L0)) ?_
        refine XS.go (s_aloadn rfl rfl rfl) ?_
        refine XS.go (s_getie rfl xf12_224 (LY.lt L0 (by decide)) (LY.k1262 L0) (by decide) rfl rfl) ?_
        refine XS.go (s_ialde rfl (LY.lt L0 (by decide)) (LY.k1269 L0) (inLit (LY.n1269 L0) qk2.1 qk2.2 (by decide)) rfl) ?_
        refine XS.go (s_bipush (v := 11) rfl rfl) ?_
        refine r_icmp_ge (tgt := 50) rfl rfl (fun qc5 => ?_) (fun qc5 => ?_)
        · replace hf := xi_pos hf qc5
          refine XS.go (s_iconst (v := 0) rfl rfl) ?_
          cases hf
          exact XR.retz rfl rfl (by decide) (fun hret => ⟨_, hret, ⟨rfl, rfl⟩, L0⟩)
        · replace hf := xi_neg hf qc5
          refine XS.go (s_iconst (v := 1) rfl rfl) ?_
          refine XS.go (s_goto (tgt := 51) rfl rfl) ?_
          cases hf
          exact XR.retz rfl rfl (by decide) (fun hret => ⟨_, hret, ⟨rfl, rfl⟩, L0⟩)
def f_m_isName (h : XH) : Option (Int32 × XH) := (if ¬ (hi h 1262 14) = 0 then (some (0, h)) else (if 0 ≤ (hi h 1262 13) ∧ (hi h 1262 13) < nI 4001 then (if ¬ (hi h 1266 (Int32.toNatClampNeg (hi h 1262 13))) = 2 then (some (0, h)) else (if ¬ (hi h 1269 (Int32.toNatClampNeg (hi h 1262 13))) = (-1) then (some (0, h)) else (some (1, h)))) else none))
set_option maxRecDepth 20000 in
theorem kf_m_isName {l : Launch} {G : XG} {d : Nat} {h : XH} {r : Int32 × XH} (L0 : LY h) (hf : f_m_isName h = some r) : XC l G xEX12_isName d [.ref 1262] h (fun v h2 => (h2 = r.2 ∧ v = some (.int r.1)) ∧ LY r.2) := by
  refine XC.virt xvX12_isName (Nat.le_of_ble_eq_true rfl) ?_
  unfold f_m_isName at hf
  refine XR.norm (L3 := [some (.ref 1262)]) rfl ?_
  refine XS.go (s_aloadn rfl rfl rfl) ?_
  refine XS.go (s_getie rfl xf12_221 (LY.lt L0 (by decide)) (LY.k1262 L0) (by decide) rfl rfl) ?_
  refine r_if_ne (tgt := 37) rfl rfl (fun qc1 => ?_) (fun qc1 => ?_)
  · replace hf := xi_pos hf qc1
    refine XS.go (s_iconst (v := 0) rfl rfl) ?_
    cases hf
    exact XR.retz rfl rfl (by decide) (fun hret => ⟨_, hret, ⟨rfl, rfl⟩, L0⟩)
  · replace hf := xi_neg hf qc1
    refine XS.go (s_aloadn rfl rfl rfl) ?_
    refine XS.go (s_getr rfl xf12_19 (LY.lt L0 (by decide)) (LY.k1262 L0) (by decide) rfl (LY.r1262_8 L0)) ?_
    refine XS.go (s_aloadn rfl rfl rfl) ?_
    refine XS.go (s_getie rfl xf12_224 (LY.lt L0 (by decide)) (LY.k1262 L0) (by decide) rfl rfl) ?_
    replace hf := xi_none hf
    obtain ⟨qk2, hf⟩ := hf
    refine XS.go (s_ialde rfl (LY.lt L0 (by decide)) (LY.k1266 L0) (inLit (LY.n1266 L0) qk2.1 qk2.2 (by decide)) rfl) ?_
    refine XS.go (s_iconst (v := 2) rfl rfl) ?_
    refine r_icmp_ne (tgt := 37) rfl rfl (fun qc3 => ?_) (fun qc3 => ?_)
    · replace hf := xi_pos hf qc3
      refine XS.go (s_iconst (v := 0) rfl rfl) ?_
      cases hf
      exact XR.retz rfl rfl (by decide) (fun hret => ⟨_, hret, ⟨rfl, rfl⟩, L0⟩)
    · replace hf := xi_neg hf qc3
      refine XS.go (s_aloadn rfl rfl rfl) ?_
      refine XS.go (s_getr rfl xf12_28 (LY.lt L0 (by decide)) (LY.k1262 L0) (by decide) rfl (LY.r1262_11 L0)) ?_
      refine XS.go (s_aloadn rfl rfl rfl) ?_
      refine XS.go (s_getie rfl xf12_224 (LY.lt L0 (by decide)) (LY.k1262 L0) (by decide) rfl rfl) ?_
      refine XS.go (s_ialde rfl (LY.lt L0 (by decide)) (LY.k1269 L0) (inLit (LY.n1269 L0) qk2.1 qk2.2 (by decide)) rfl) ?_
      refine XS.go (s_iconst (v := (-1)) rfl rfl) ?_
      refine r_icmp_ne (tgt := 37) rfl rfl (fun qc4 => ?_) (fun qc4 => ?_)
      · replace hf := xi_pos hf qc4
        refine XS.go (s_iconst (v := 0) rfl rfl) ?_
        cases hf
        exact XR.retz rfl rfl (by decide) (fun hret => ⟨_, hret, ⟨rfl, rfl⟩, L0⟩)
      · replace hf := xi_neg hf qc4
        refine XS.go (s_iconst (v := 1) rfl rfl) ?_
        refine XS.go (s_goto (tgt := 38) rfl rfl) ?_
        cases hf
        exact XR.retz rfl rfl (by decide) (fun hret => ⟨_, hret, ⟨rfl, rfl⟩, L0⟩)
def f_m_take (h : XH) : Option (Unit × XH) := (if ¬ (hi h 1262 14) = 0 then (some ((), h)) else (some ((), (hsi h 1262 13 ((hi h 1262 13) + 1)))))
set_option maxRecDepth 20000 in
theorem kf_m_take {l : Launch} {G : XG} {d : Nat} {h : XH} {r : Unit × XH} (L0 : LY h) (hf : f_m_take h = some r) : XC l G xEX12_take d [.ref 1262] h (fun v h2 => (h2 = r.2 ∧ v = none) ∧ LY r.2) := by
  refine XC.virt xvX12_take (Nat.le_of_ble_eq_true rfl) ?_
  unfold f_m_take at hf
  refine XR.norm (L3 := [some (.ref 1262)]) rfl ?_
  refine XS.go (s_aloadn rfl rfl rfl) ?_
  refine XS.go (s_getie rfl xf12_221 (LY.lt L0 (by decide)) (LY.k1262 L0) (by decide) rfl rfl) ?_
  refine r_if_ne (tgt := 17) rfl rfl (fun qc1 => ?_) (fun qc1 => ?_)
  · replace hf := xi_pos hf qc1
    cases hf
    exact XR.retv rfl rfl (fun hret => ⟨_, hret, ⟨rfl, rfl⟩, L0⟩)
  · replace hf := xi_neg hf qc1
    refine XS.go (s_aloadn rfl rfl rfl) ?_
    refine XS.go (s_dup rfl rfl) ?_
    refine XS.go (s_getie rfl xf12_224 (LY.lt L0 (by decide)) (LY.k1262 L0) (by decide) rfl rfl) ?_
    refine XS.go (s_iconst (v := 1) rfl rfl) ?_
    refine XS.go (s_iadd rfl) ?_
    refine XS.go (s_puti rfl xf12_224 (LY.lt L0 (by decide)) (LY.k1262 L0) (by decide) rfl (Or.inl rfl)) ?_
    cases hf
    exact XR.retv rfl rfl (fun hret => ⟨_, hret, ⟨rfl, rfl⟩, (by simp only [LY_si, LY_sj]; exact L0)⟩)
def b_m_sign_19 (h : XH) : Option (Unit × XH) := (Option.bind (f_m_take h) fun r1 => (some ((), r1.2)))
set_option maxRecDepth 20000 in
theorem kb_m_sign_19 {l : Launch} {G : XG} {d : Nat} {h : XH} {r : Unit × XH} (L0 : LY h) (hf : b_m_sign_19 h = some r) : XR l G xEX12_sign (d + 2) (19, [some (.ref 1262), none], [], h) (fun C => ∃ v, xRet xEX12_sign C v ∧ (C.2.2.2 = r.2 ∧ v = none) ∧ LY r.2) := by
  unfold b_m_sign_19 at hf
  refine XS.go (s_aloadn rfl rfl rfl) ?_
  replace hf := xb_some hf
  obtain ⟨r1, e2, hf⟩ := hf
  refine r_callv rfl xvX12_take xm12_240 (kf_m_take (d := d) L0 e2) (LY.lt L0 (by decide)) (LY.k1262 L0) (by decide) rfl rfl (dl0 (by decide)) (by decide) (Nat.le_of_ble_eq_true rfl) ?_
  rintro _ _ ⟨⟨rfl, rfl⟩, L3⟩
  cases hf
  exact XR.retv rfl rfl (fun hret => ⟨_, hret, ⟨rfl, rfl⟩, L3⟩)
def f_m_sign (a0 : Int32) (h : XH) : Option (Unit × XH) := (if ¬ (hi h 1262 14) = 0 then (b_m_sign_19 h) else (Option.bind (f_m_isSign a0 h) fun r5 => (if ¬ r5.1 = 0 then (b_m_sign_19 r5.2) else (Option.bind (f_m_misfit r5.2) fun r9 => (b_m_sign_19 r9.2)))))
set_option maxRecDepth 20000 in
theorem kf_m_sign {l : Launch} {G : XG} {d : Nat} {a0 : Int32} {h : XH} {r : Unit × XH} (L0 : LY h) (hf : f_m_sign a0 h = some r) : XC l G xEX12_sign (d + 2) [.ref 1262, .int a0] h (fun v h2 => (h2 = r.2 ∧ v = none) ∧ LY r.2) := by
  refine XC.virt xvX12_sign (Nat.le_of_ble_eq_true rfl) ?_
  unfold f_m_sign at hf
  refine XR.norm (L3 := [some (.ref 1262), some (.int a0)]) rfl ?_
  refine XS.go (s_aloadn rfl rfl rfl) ?_
  refine XS.go (s_getie rfl xf12_221 (LY.lt L0 (by decide)) (LY.k1262 L0) (by decide) rfl rfl) ?_
  refine r_if_ne (tgt := 19) rfl rfl (fun qc4 => ?_) (fun qc4 => ?_)
  · replace hf := xi_pos hf qc4
    exact XR.forget (L2 := [some (.ref 1262), none]) ⟨rfl, trivial⟩ (kb_m_sign_19 L0 hf)
  · replace hf := xi_neg hf qc4
    refine XS.go (s_aloadn rfl rfl rfl) ?_
    refine XS.go (s_iloadn rfl rfl rfl) ?_
    replace hf := xb_some hf
    obtain ⟨r5, e6, hf⟩ := hf
    refine r_callv rfl xvX12_isSign xm12_234 (kf_m_isSign (d := d) L0 e6) (LY.lt L0 (by decide)) (LY.k1262 L0) (by decide) rfl rfl (dl0 (by decide)) (by decide) (Nat.le_of_ble_eq_true rfl) ?_
    rintro _ _ ⟨⟨rfl, rfl⟩, L7⟩
    refine r_if_ne (tgt := 19) rfl rfl (fun qc8 => ?_) (fun qc8 => ?_)
    · replace hf := xi_pos hf qc8
      exact XR.forget (L2 := [some (.ref 1262), none]) ⟨rfl, trivial⟩ (kb_m_sign_19 L7 hf)
    · replace hf := xi_neg hf qc8
      refine XS.go (s_aloadn rfl rfl rfl) ?_
      replace hf := xb_some hf
      obtain ⟨r9, e10, hf⟩ := hf
      refine r_callv rfl xvX12_misfit xm12_237 (kf_m_misfit (d := d) L7 e10) (LY.lt L7 (by decide)) (LY.k1262 L7) (by decide) rfl rfl (dl (by decide)) (by decide) (Nat.le_of_ble_eq_true rfl) ?_
      rintro _ _ ⟨⟨rfl, rfl⟩, L11⟩
      exact XR.forget (L2 := [some (.ref 1262), none]) ⟨rfl, trivial⟩ (kb_m_sign_19 L11 hf)
def b_m_name_18 (h : XH) : Option (Unit × XH) := (Option.bind (f_m_take h) fun r1 => (some ((), r1.2)))
set_option maxRecDepth 20000 in
theorem kb_m_name_18 {l : Launch} {G : XG} {d : Nat} {h : XH} {r : Unit × XH} (L0 : LY h) (hf : b_m_name_18 h = some r) : XR l G xEX12_name (d + 2) (18, [some (.ref 1262)], [], h) (fun C => ∃ v, xRet xEX12_name C v ∧ (C.2.2.2 = r.2 ∧ v = none) ∧ LY r.2) := by
  unfold b_m_name_18 at hf
  refine XS.go (s_aloadn rfl rfl rfl) ?_
  replace hf := xb_some hf
  obtain ⟨r1, e2, hf⟩ := hf
  refine r_callv rfl xvX12_take xm12_240 (kf_m_take (d := d) L0 e2) (LY.lt L0 (by decide)) (LY.k1262 L0) (by decide) rfl rfl (dl0 (by decide)) (by decide) (Nat.le_of_ble_eq_true rfl) ?_
  rintro _ _ ⟨⟨rfl, rfl⟩, L3⟩
  cases hf
  exact XR.retv rfl rfl (fun hret => ⟨_, hret, ⟨rfl, rfl⟩, L3⟩)
def f_m_name (h : XH) : Option (Unit × XH) := (if ¬ (hi h 1262 14) = 0 then (b_m_name_18 h) else (Option.bind (f_m_isName h) fun r5 => (if ¬ r5.1 = 0 then (b_m_name_18 r5.2) else (Option.bind (f_m_misfit r5.2) fun r9 => (b_m_name_18 r9.2)))))
set_option maxRecDepth 20000 in
theorem kf_m_name {l : Launch} {G : XG} {d : Nat} {h : XH} {r : Unit × XH} (L0 : LY h) (hf : f_m_name h = some r) : XC l G xEX12_name (d + 2) [.ref 1262] h (fun v h2 => (h2 = r.2 ∧ v = none) ∧ LY r.2) := by
  refine XC.virt xvX12_name (Nat.le_of_ble_eq_true rfl) ?_
  unfold f_m_name at hf
  refine XR.norm (L3 := [some (.ref 1262)]) rfl ?_
  refine XS.go (s_aloadn rfl rfl rfl) ?_
  refine XS.go (s_getie rfl xf12_221 (LY.lt L0 (by decide)) (LY.k1262 L0) (by decide) rfl rfl) ?_
  refine r_if_ne (tgt := 18) rfl rfl (fun qc4 => ?_) (fun qc4 => ?_)
  · replace hf := xi_pos hf qc4
    exact XR.forget (L2 := [some (.ref 1262)]) ⟨rfl, trivial⟩ (kb_m_name_18 L0 hf)
  · replace hf := xi_neg hf qc4
    refine XS.go (s_aloadn rfl rfl rfl) ?_
    replace hf := xb_some hf
    obtain ⟨r5, e6, hf⟩ := hf
    refine r_callv rfl xvX12_isName xm12_243 (kf_m_isName (d := d) L0 e6) (LY.lt L0 (by decide)) (LY.k1262 L0) (by decide) rfl rfl (dl0 (by decide)) (by decide) (Nat.le_of_ble_eq_true rfl) ?_
    rintro _ _ ⟨⟨rfl, rfl⟩, L7⟩
    refine r_if_ne (tgt := 18) rfl rfl (fun qc8 => ?_) (fun qc8 => ?_)
    · replace hf := xi_pos hf qc8
      exact XR.forget (L2 := [some (.ref 1262)]) ⟨rfl, trivial⟩ (kb_m_name_18 L7 hf)
    · replace hf := xi_neg hf qc8
      refine XS.go (s_aloadn rfl rfl rfl) ?_
      replace hf := xb_some hf
      obtain ⟨r9, e10, hf⟩ := hf
      refine r_callv rfl xvX12_misfit xm12_237 (kf_m_misfit (d := d) L7 e10) (LY.lt L7 (by decide)) (LY.k1262 L7) (by decide) rfl rfl (dl (by decide)) (by decide) (Nat.le_of_ble_eq_true rfl) ?_
      rintro _ _ ⟨⟨rfl, rfl⟩, L11⟩
      exact XR.forget (L2 := [some (.ref 1262)]) ⟨rfl, trivial⟩ (kb_m_name_18 L11 hf)
def s_m_definition_2 (K2 : Int32 → Int32 → XH → Option (Int32 × XH)) (x1 : Int32) (x2 : Int32) (h : XH) : Option (Int32 × XH) := (if (hi h 1262 16) ≤ x2 then (some ((-1), h)) else (if 0 ≤ x2 ∧ x2 < nI 40 then (Option.bind (f_m_sameName (hi h 1270 (Int32.toNatClampNeg x2)) x1 h) fun r3 => (if r3.1 = 0 then (K2 x1 (x2 + 1) r3.2) else (some (x2, r3.2)))) else none))
set_option maxRecDepth 20000 in
theorem ks_m_definition_2 {l : Launch} {G : XG} {d : Nat} {K2 : Int32 → Int32 → XH → Option (Int32 × XH)} {x1 : Int32} {x2 : Int32} {h : XH} {r : Int32 × XH} (hK2 : ∀ (x1 : Int32) (x2 : Int32) (h : XH), LY h → K2 x1 x2 h = some r → XR l G xEX12_definition (d + 1) (2, [some (.ref 1262), some (.int x1), some (.int x2)], [], h) (fun C => ∃ v, xRet xEX12_definition C v ∧ (C.2.2.2 = r.2 ∧ v = some (.int r.1)) ∧ LY r.2)) (L0 : LY h) (hf : s_m_definition_2 K2 x1 x2 h = some r) : XR l G xEX12_definition (d + 1) (2, [some (.ref 1262), some (.int x1), some (.int x2)], [], h) (fun C => ∃ v, xRet xEX12_definition C v ∧ (C.2.2.2 = r.2 ∧ v = some (.int r.1)) ∧ LY r.2) := by
  unfold s_m_definition_2 at hf
  refine XS.go (s_iloadn rfl rfl rfl) ?_
  refine XS.go (s_aloadn rfl rfl rfl) ?_
  refine XS.go (s_getie rfl xf12_247 (LY.lt L0 (by decide)) (LY.k1262 L0) (by decide) rfl rfl) ?_
  refine r_icmp_ge (tgt := 32) rfl rfl (fun qc1 => ?_) (fun qc1 => ?_)
  · replace hf := xi_pos hf qc1
    refine XS.go (s_iconst (v := (-1)) rfl rfl) ?_
    cases hf
    exact XR.reti rfl rfl (fun hret => ⟨_, hret, ⟨rfl, rfl⟩, L0⟩)
  · replace hf := xi_neg hf qc1
    refine XS.go (s_aloadn rfl rfl rfl) ?_
    refine XS.go (s_aloadn rfl rfl rfl) ?_
    refine XS.go (s_getr rfl xf12_31 (LY.lt L0 (by decide)) (LY.k1262 L0) (by decide) rfl (LY.r1262_17 L0)) ?_
    refine XS.go (s_iloadn rfl rfl rfl) ?_
    replace hf := xi_none hf
    obtain ⟨qk2, hf⟩ := hf
    refine XS.go (s_ialde rfl (LY.lt L0 (by decide)) (LY.k1270 L0) (inLit (LY.n1270 L0) qk2.1 qk2.2 (by decide)) rfl) ?_
    refine XS.go (s_iloadn rfl rfl rfl) ?_
    replace hf := xb_some hf
    obtain ⟨r3, e4, hf⟩ := hf
    refine r_callv rfl xvX12_sameName xm12_250 (kf_m_sameName (d := d) L0 e4) (LY.lt L0 (by decide)) (LY.k1262 L0) (by decide) rfl rfl (dl0 (by decide)) (by decide) (Nat.le_of_ble_eq_true rfl) ?_
    rintro _ _ ⟨⟨rfl, rfl⟩, L5⟩
    refine r_if_eq (tgt := 26) rfl rfl (fun qc6 => ?_) (fun qc6 => ?_)
    · replace hf := xi_pos hf qc6
      refine XS.go (XS.lcl (L3 := [some (.ref 1262), some (.int x1), some (.int (x2 + 1))]) (s_inc rfl rfl (Nat.le_of_ble_eq_true rfl)) rfl) ?_
      refine XS.go (s_goto (tgt := 2) rfl rfl) ?_
      exact XR.forget (L2 := [some (.ref 1262), some (.int x1), some (.int (x2 + 1))]) ⟨rfl, ⟨rfl, ⟨rfl, trivial⟩⟩⟩ (hK2 x1 (x2 + 1) _ L5 hf)
    · replace hf := xi_neg hf qc6
      refine XS.go (s_iloadn rfl rfl rfl) ?_
      cases hf
      exact XR.reti rfl rfl (fun hret => ⟨_, hret, ⟨rfl, rfl⟩, L5⟩)
def b_m_definition_2 : Nat → Int32 → Int32 → XH → Option (Int32 × XH)
  | 0, _, _, _ => none
  | n + 1, x1, x2, h => s_m_definition_2 (b_m_definition_2 n) x1 x2 h
theorem kb_m_definition_2 {l : Launch} {G : XG} {d : Nat} {n : Nat} {x1 : Int32} {x2 : Int32} {h : XH} {r : Int32 × XH} (L0 : LY h) (hf : b_m_definition_2 n x1 x2 h = some r) : XR l G xEX12_definition (d + 1) (2, [some (.ref 1262), some (.int x1), some (.int x2)], [], h) (fun C => ∃ v, xRet xEX12_definition C v ∧ (C.2.2.2 = r.2 ∧ v = some (.int r.1)) ∧ LY r.2) := by
  induction n generalizing x1 x2 h with
  | zero => cases hf
  | succ n ih => exact ks_m_definition_2 (fun x1 x2 h L0 hf => ih (h := h) (x1 := x1) (x2 := x2) L0 hf) L0 hf
def f_m_definition (a0 : Int32) (h : XH) : Option (Int32 × XH) := (b_m_definition_2 100000 a0 0 h)
set_option maxRecDepth 20000 in
theorem kf_m_definition {l : Launch} {G : XG} {d : Nat} {a0 : Int32} {h : XH} {r : Int32 × XH} (L0 : LY h) (hf : f_m_definition a0 h = some r) : XC l G xEX12_definition (d + 1) [.ref 1262, .int a0] h (fun v h2 => (h2 = r.2 ∧ v = some (.int r.1)) ∧ LY r.2) := by
  refine XC.virt xvX12_definition (Nat.le_of_ble_eq_true rfl) ?_
  unfold f_m_definition at hf
  refine XR.norm (L3 := [some (.ref 1262), some (.int a0), none]) rfl ?_
  refine XS.go (s_iconst (v := 0) rfl rfl) ?_
  refine XS.go (XS.lcl (L3 := [some (.ref 1262), some (.int a0), some (.int 0)]) (s_istoren rfl rfl (Nat.le_of_ble_eq_true rfl)) rfl) ?_
  exact XR.forget (L2 := [some (.ref 1262), some (.int a0), some (.int 0)]) ⟨rfl, ⟨rfl, ⟨rfl, trivial⟩⟩⟩ (kb_m_definition_2 L0 hf)
def b_m_fresh_62 (x3 : Int32) (x4 : Int32) (h : XH) : Option (Unit × XH) := (if ¬ (hi h 1262 14) = 0 then (some ((), h)) else (if ¬ x3 = x4 then (some ((), h)) else (Option.bind (f_m_flaw 4 h) fun r3 => (some ((), r3.2)))))
set_option maxRecDepth 20000 in
theorem kb_m_fresh_62 {l : Launch} {G : XG} {d : Nat} {x3 : Int32} {x4 : Int32} {h : XH} {r : Unit × XH} (L0 : LY h) (hf : b_m_fresh_62 x3 x4 h = some r) : XR l G xEX12_fresh (d + 2) (62, [some (.ref 1262), none, none, some (.int x3), some (.int x4), none], [], h) (fun C => ∃ v, xRet xEX12_fresh C v ∧ (C.2.2.2 = r.2 ∧ v = none) ∧ LY r.2) := by
  unfold b_m_fresh_62 at hf
  refine XS.go (s_aloadn rfl rfl rfl) ?_
  refine XS.go (s_getie rfl xf12_221 (LY.lt L0 (by decide)) (LY.k1262 L0) (by decide) rfl rfl) ?_
  refine r_if_ne (tgt := 80) rfl rfl (fun qc1 => ?_) (fun qc1 => ?_)
  · replace hf := xi_pos hf qc1
    cases hf
    exact XR.retv rfl rfl (fun hret => ⟨_, hret, ⟨rfl, rfl⟩, L0⟩)
  · replace hf := xi_neg hf qc1
    refine XS.go (s_iloadn rfl rfl rfl) ?_
    refine XS.go (s_iload rfl rfl) ?_
    refine r_icmp_ne (tgt := 80) rfl rfl (fun qc2 => ?_) (fun qc2 => ?_)
    · replace hf := xi_pos hf qc2
      cases hf
      exact XR.retv rfl rfl (fun hret => ⟨_, hret, ⟨rfl, rfl⟩, L0⟩)
    · replace hf := xi_neg hf qc2
      refine XS.go (s_aloadn rfl rfl rfl) ?_
      refine XS.go (s_iconst (v := 4) rfl rfl) ?_
      replace hf := xb_some hf
      obtain ⟨r3, e4, hf⟩ := hf
      refine r_callv rfl xvX12_flaw xm12_230 (kf_m_flaw (d := d) L0 e4) (LY.lt L0 (by decide)) (LY.k1262 L0) (by decide) rfl rfl (dl0 (by decide)) (by decide) (Nat.le_of_ble_eq_true rfl) ?_
      rintro _ _ ⟨⟨rfl, rfl⟩, L5⟩
      cases hf
      exact XR.retv rfl rfl (fun hret => ⟨_, hret, ⟨rfl, rfl⟩, L5⟩)
def b_m_fresh_56 (K21 : Nat → Int32 → Int32 → Int32 → Int32 → XH → Option (Unit × XH)) (x1 : Nat) (x2 : Int32) (x3 : Int32) (x4 : Int32) (x5 : Int32) (h : XH) : Option (Unit × XH) := (K21 x1 x2 x3 x4 (x5 + 1) h)
set_option maxRecDepth 20000 in
theorem kb_m_fresh_56 {l : Launch} {G : XG} {d : Nat} {K21 : Nat → Int32 → Int32 → Int32 → Int32 → XH → Option (Unit × XH)} {x1 : Nat} {x2 : Int32} {x3 : Int32} {x4 : Int32} {x5 : Int32} {h : XH} {r : Unit × XH} (hK21 : ∀ (x1 : Nat) (x2 : Int32) (x3 : Int32) (x4 : Int32) (x5 : Int32) (h : XH), LY h → K21 x1 x2 x3 x4 x5 h = some r → XR l G xEX12_fresh (d + 2) (21, [some (.ref 1262), some (.ref x1), some (.int x2), some (.int x3), some (.int x4), some (.int x5)], [], h) (fun C => ∃ v, xRet xEX12_fresh C v ∧ (C.2.2.2 = r.2 ∧ v = none) ∧ LY r.2)) (L0 : LY h) (hf : b_m_fresh_56 K21 x1 x2 x3 x4 x5 h = some r) : XR l G xEX12_fresh (d + 2) (56, [some (.ref 1262), some (.ref x1), some (.int x2), some (.int x3), some (.int x4), some (.int x5)], [], h) (fun C => ∃ v, xRet xEX12_fresh C v ∧ (C.2.2.2 = r.2 ∧ v = none) ∧ LY r.2) := by
  unfold b_m_fresh_56 at hf
  refine XS.go (XS.lcl (L3 := [some (.ref 1262), some (.ref x1), some (.int x2), some (.int x3), some (.int x4), some (.int (x5 + 1))]) (s_inc rfl rfl (Nat.le_of_ble_eq_true rfl)) rfl) ?_
  refine XS.go (s_goto (tgt := 21) rfl rfl) ?_
  exact XR.forget (L2 := [some (.ref 1262), some (.ref x1), some (.int x2), some (.int x3), some (.int x4), some (.int (x5 + 1))]) ⟨rfl, ⟨rfl, ⟨rfl, ⟨rfl, ⟨rfl, ⟨rfl, trivial⟩⟩⟩⟩⟩⟩ (hK21 x1 x2 x3 x4 (x5 + 1) _ L0 hf)
def s_m_fresh_21 (K21 : Nat → Int32 → Int32 → Int32 → Int32 → XH → Option (Unit × XH)) (x1 : Nat) (x2 : Int32) (x3 : Int32) (x4 : Int32) (x5 : Int32) (h : XH) : Option (Unit × XH) := (if x3 ≤ x5 then (b_m_fresh_62 x3 x4 h) else (if ¬ (hi h 1262 14) = 0 then (b_m_fresh_62 x3 x4 h) else (if x1 < hz h ∧ hk h x1 = 100 then (if 0 ≤ (x2 + x5) ∧ (x2 + x5) < nI (hn h x1) ∧ (hn h x1) < 2 ^ 31 then (Option.bind (f_m_sameName (hi h x1 (Int32.toNatClampNeg (x2 + x5))) (hi h 1262 13) h) fun r10 => (if r10.1 = 0 then (b_m_fresh_56 K21 x1 x2 x3 x4 x5 r10.2) else (Option.bind (f_m_flaw 3 r10.2) fun r14 => (b_m_fresh_56 K21 x1 x2 x3 x4 x5 r14.2)))) else none) else none)))
set_option maxRecDepth 20000 in
theorem ks_m_fresh_21 {l : Launch} {G : XG} {d : Nat} {K21 : Nat → Int32 → Int32 → Int32 → Int32 → XH → Option (Unit × XH)} {x1 : Nat} {x2 : Int32} {x3 : Int32} {x4 : Int32} {x5 : Int32} {h : XH} {r : Unit × XH} (hK21 : ∀ (x1 : Nat) (x2 : Int32) (x3 : Int32) (x4 : Int32) (x5 : Int32) (h : XH), LY h → K21 x1 x2 x3 x4 x5 h = some r → XR l G xEX12_fresh (d + 2) (21, [some (.ref 1262), some (.ref x1), some (.int x2), some (.int x3), some (.int x4), some (.int x5)], [], h) (fun C => ∃ v, xRet xEX12_fresh C v ∧ (C.2.2.2 = r.2 ∧ v = none) ∧ LY r.2)) (L0 : LY h) (hf : s_m_fresh_21 K21 x1 x2 x3 x4 x5 h = some r) : XR l G xEX12_fresh (d + 2) (21, [some (.ref 1262), some (.ref x1), some (.int x2), some (.int x3), some (.int x4), some (.int x5)], [], h) (fun C => ∃ v, xRet xEX12_fresh C v ∧ (C.2.2.2 = r.2 ∧ v = none) ∧ LY r.2) := by
  unfold s_m_fresh_21 at hf
  refine XS.go (s_iload rfl rfl) ?_
  refine XS.go (s_iloadn rfl rfl rfl) ?_
  refine r_icmp_ge (tgt := 62) rfl rfl (fun qc6 => ?_) (fun qc6 => ?_)
  · replace hf := xi_pos hf qc6
    exact XR.forget (L2 := [some (.ref 1262), none, none, some (.int x3), some (.int x4), none]) ⟨rfl, ⟨rfl, ⟨rfl, trivial⟩⟩⟩ (kb_m_fresh_62 L0 hf)
  · replace hf := xi_neg hf qc6
    refine XS.go (s_aloadn rfl rfl rfl) ?_
    refine XS.go (s_getie rfl xf12_221 (LY.lt L0 (by decide)) (LY.k1262 L0) (by decide) rfl rfl) ?_
    refine r_if_ne (tgt := 62) rfl rfl (fun qc7 => ?_) (fun qc7 => ?_)
    · replace hf := xi_pos hf qc7
      exact XR.forget (L2 := [some (.ref 1262), none, none, some (.int x3), some (.int x4), none]) ⟨rfl, ⟨rfl, ⟨rfl, trivial⟩⟩⟩ (kb_m_fresh_62 L0 hf)
    · replace hf := xi_neg hf qc7
      refine XS.go (s_aloadn rfl rfl rfl) ?_
      refine XS.go (s_aloadn rfl rfl rfl) ?_
      refine XS.go (s_iloadn rfl rfl rfl) ?_
      refine XS.go (s_iload rfl rfl) ?_
      refine XS.go (s_iadd rfl) ?_
      replace hf := xi_none hf
      obtain ⟨qk8, hf⟩ := hf
      replace hf := xi_none hf
      obtain ⟨qk9, hf⟩ := hf
      refine XS.go (s_ialde rfl qk8.1 qk8.2 (inLit (N := hn h x1) rfl qk9.1 qk9.2.1 qk9.2.2) rfl) ?_
      refine XS.go (s_aloadn rfl rfl rfl) ?_
      refine XS.go (s_getie rfl xf12_224 (LY.lt L0 (by decide)) (LY.k1262 L0) (by decide) rfl rfl) ?_
      replace hf := xb_some hf
      obtain ⟨r10, e11, hf⟩ := hf
      refine r_callv rfl xvX12_sameName xm12_250 (kf_m_sameName (d := d) L0 e11) (LY.lt L0 (by decide)) (LY.k1262 L0) (by decide) rfl rfl (dl0 (by decide)) (by decide) (Nat.le_of_ble_eq_true rfl) ?_
      rintro _ _ ⟨⟨rfl, rfl⟩, L12⟩
      refine r_if_eq (tgt := 56) rfl rfl (fun qc13 => ?_) (fun qc13 => ?_)
      · replace hf := xi_pos hf qc13
        exact XR.forget (L2 := [some (.ref 1262), some (.ref x1), some (.int x2), some (.int x3), some (.int x4), some (.int x5)]) ⟨rfl, ⟨rfl, ⟨rfl, ⟨rfl, ⟨rfl, ⟨rfl, trivial⟩⟩⟩⟩⟩⟩ (kb_m_fresh_56 hK21 L12 hf)
      · replace hf := xi_neg hf qc13
        refine XS.go (s_aloadn rfl rfl rfl) ?_
        refine XS.go (s_iconst (v := 3) rfl rfl) ?_
        replace hf := xb_some hf
        obtain ⟨r14, e15, hf⟩ := hf
        refine r_callv rfl xvX12_flaw xm12_230 (kf_m_flaw (d := d) L12 e15) (LY.lt L12 (by decide)) (LY.k1262 L12) (by decide) rfl rfl (dl0 (by decide)) (by decide) (Nat.le_of_ble_eq_true rfl) ?_
        rintro _ _ ⟨⟨rfl, rfl⟩, L16⟩
        exact XR.forget (L2 := [some (.ref 1262), some (.ref x1), some (.int x2), some (.int x3), some (.int x4), some (.int x5)]) ⟨rfl, ⟨rfl, ⟨rfl, ⟨rfl, ⟨rfl, ⟨rfl, trivial⟩⟩⟩⟩⟩⟩ (kb_m_fresh_56 hK21 L16 hf)
def b_m_fresh_21 : Nat → Nat → Int32 → Int32 → Int32 → Int32 → XH → Option (Unit × XH)
  | 0, _, _, _, _, _, _ => none
  | n + 1, x1, x2, x3, x4, x5, h => s_m_fresh_21 (b_m_fresh_21 n) x1 x2 x3 x4 x5 h
theorem kb_m_fresh_21 {l : Launch} {G : XG} {d : Nat} {n : Nat} {x1 : Nat} {x2 : Int32} {x3 : Int32} {x4 : Int32} {x5 : Int32} {h : XH} {r : Unit × XH} (L0 : LY h) (hf : b_m_fresh_21 n x1 x2 x3 x4 x5 h = some r) : XR l G xEX12_fresh (d + 2) (21, [some (.ref 1262), some (.ref x1), some (.int x2), some (.int x3), some (.int x4), some (.int x5)], [], h) (fun C => ∃ v, xRet xEX12_fresh C v ∧ (C.2.2.2 = r.2 ∧ v = none) ∧ LY r.2) := by
  induction n generalizing x1 x2 x3 x4 x5 h with
  | zero => cases hf
  | succ n ih => exact ks_m_fresh_21 (fun x1 x2 x3 x4 x5 h L0 hf => ih (h := h) (x1 := x1) (x2 := x2) (x3 := x3) (x4 := x4) (x5 := x5) L0 hf) L0 hf
def b_m_fresh_18 (x1 : Nat) (x2 : Int32) (x3 : Int32) (x4 : Int32) (h : XH) : Option (Unit × XH) := (b_m_fresh_21 100000 x1 x2 x3 x4 0 h)
set_option maxRecDepth 20000 in
theorem kb_m_fresh_18 {l : Launch} {G : XG} {d : Nat} {x1 : Nat} {x2 : Int32} {x3 : Int32} {x4 : Int32} {h : XH} {r : Unit × XH} (L0 : LY h) (hf : b_m_fresh_18 x1 x2 x3 x4 h = some r) : XR l G xEX12_fresh (d + 2) (18, [some (.ref 1262), some (.ref x1), some (.int x2), some (.int x3), some (.int x4), none], [], h) (fun C => ∃ v, xRet xEX12_fresh C v ∧ (C.2.2.2 = r.2 ∧ v = none) ∧ LY r.2) := by
  unfold b_m_fresh_18 at hf
  refine XS.go (s_iconst (v := 0) rfl rfl) ?_
  refine XS.go (XS.lcl (L3 := [some (.ref 1262), some (.ref x1), some (.int x2), some (.int x3), some (.int x4), some (.int 0)]) (s_istore rfl (Nat.le_of_ble_eq_true rfl)) rfl) ?_
  exact XR.forget (L2 := [some (.ref 1262), some (.ref x1), some (.int x2), some (.int x3), some (.int x4), some (.int 0)]) ⟨rfl, ⟨rfl, ⟨rfl, ⟨rfl, ⟨rfl, ⟨rfl, trivial⟩⟩⟩⟩⟩⟩ (kb_m_fresh_21 L0 hf)
def f_m_fresh (a0 : Nat) (a1 : Int32) (a2 : Int32) (a3 : Int32) (h : XH) : Option (Unit × XH) := (if ¬ (hi h 1262 14) = 0 then (b_m_fresh_18 a0 a1 a2 a3 h) else (Option.bind (f_m_isName h) fun r18 => (if ¬ r18.1 = 0 then (b_m_fresh_18 a0 a1 a2 a3 r18.2) else (Option.bind (f_m_misfit r18.2) fun r22 => (b_m_fresh_18 a0 a1 a2 a3 r22.2)))))
set_option maxRecDepth 20000 in
theorem kf_m_fresh {l : Launch} {G : XG} {d : Nat} {a0 : Nat} {a1 : Int32} {a2 : Int32} {a3 : Int32} {h : XH} {r : Unit × XH} (L0 : LY h) (hf : f_m_fresh a0 a1 a2 a3 h = some r) : XC l G xEX12_fresh (d + 2) [.ref 1262, .ref a0, .int a1, .int a2, .int a3] h (fun v h2 => (h2 = r.2 ∧ v = none) ∧ LY r.2) := by
  refine XC.virt xvX12_fresh (Nat.le_of_ble_eq_true rfl) ?_
  unfold f_m_fresh at hf
  refine XR.norm (L3 := [some (.ref 1262), some (.ref a0), some (.int a1), some (.int a2), some (.int a3), none]) rfl ?_
  refine XS.go (s_aloadn rfl rfl rfl) ?_
  refine XS.go (s_getie rfl xf12_221 (LY.lt L0 (by decide)) (LY.k1262 L0) (by decide) rfl rfl) ?_
  refine r_if_ne (tgt := 18) rfl rfl (fun qc17 => ?_) (fun qc17 => ?_)
  · replace hf := xi_pos hf qc17
    exact XR.forget (L2 := [some (.ref 1262), some (.ref a0), some (.int a1), some (.int a2), some (.int a3), none]) ⟨rfl, ⟨rfl, ⟨rfl, ⟨rfl, ⟨rfl, trivial⟩⟩⟩⟩⟩ (kb_m_fresh_18 L0 hf)
  · replace hf := xi_neg hf qc17
    refine XS.go (s_aloadn rfl rfl rfl) ?_
    replace hf := xb_some hf
    obtain ⟨r18, e19, hf⟩ := hf
    refine r_callv rfl xvX12_isName xm12_243 (kf_m_isName (d := d) L0 e19) (LY.lt L0 (by decide)) (LY.k1262 L0) (by decide) rfl rfl (dl0 (by decide)) (by decide) (Nat.le_of_ble_eq_true rfl) ?_
    rintro _ _ ⟨⟨rfl, rfl⟩, L20⟩
    refine r_if_ne (tgt := 18) rfl rfl (fun qc21 => ?_) (fun qc21 => ?_)
    · replace hf := xi_pos hf qc21
      exact XR.forget (L2 := [some (.ref 1262), some (.ref a0), some (.int a1), some (.int a2), some (.int a3), none]) ⟨rfl, ⟨rfl, ⟨rfl, ⟨rfl, ⟨rfl, trivial⟩⟩⟩⟩⟩ (kb_m_fresh_18 L20 hf)
    · replace hf := xi_neg hf qc21
      refine XS.go (s_aloadn rfl rfl rfl) ?_
      replace hf := xb_some hf
      obtain ⟨r22, e23, hf⟩ := hf
      refine r_callv rfl xvX12_misfit xm12_237 (kf_m_misfit (d := d) L20 e23) (LY.lt L20 (by decide)) (LY.k1262 L20) (by decide) rfl rfl (dl (by decide)) (by decide) (Nat.le_of_ble_eq_true rfl) ?_
      rintro _ _ ⟨⟨rfl, rfl⟩, L24⟩
      exact XR.forget (L2 := [some (.ref 1262), some (.ref a0), some (.int a1), some (.int a2), some (.int a3), none]) ⟨rfl, ⟨rfl, ⟨rfl, ⟨rfl, ⟨rfl, trivial⟩⟩⟩⟩⟩ (kb_m_fresh_18 L24 hf)
def f_m_ask (a0 : Int32) (a1 : Int32) (a2 : Int32) (h : XH) : Option (Unit × XH) := (if ¬ (hi h 1262 14) = 0 then (some ((), h)) else (if 0 ≤ (hi h 1262 46) ∧ (hi h 1262 46) < nI 400 then (some ((), (hsi (hsi (hsi (hsi h 1295 (Int32.toNatClampNeg (hi h 1262 46)) a0) 1296 (Int32.toNatClampNeg (hi h 1262 46)) a1) 1297 (Int32.toNatClampNeg (hi h 1262 46)) a2) 1262 46 ((hi h 1262 46) + 1)))) else none))
set_option maxRecDepth 20000 in
theorem kf_m_ask {l : Launch} {G : XG} {d : Nat} {a0 : Int32} {a1 : Int32} {a2 : Int32} {h : XH} {r : Unit × XH} (L0 : LY h) (hf : f_m_ask a0 a1 a2 h = some r) : XC l G xEX12_ask d [.ref 1262, .int a0, .int a1, .int a2] h (fun v h2 => (h2 = r.2 ∧ v = none) ∧ LY r.2) := by
  refine XC.virt xvX12_ask (Nat.le_of_ble_eq_true rfl) ?_
  unfold f_m_ask at hf
  refine XR.norm (L3 := [some (.ref 1262), some (.int a0), some (.int a1), some (.int a2)]) rfl ?_
  refine XS.go (s_aloadn rfl rfl rfl) ?_
  refine XS.go (s_getie rfl xf12_221 (LY.lt L0 (by decide)) (LY.k1262 L0) (by decide) rfl rfl) ?_
  refine r_if_ne (tgt := 47) rfl rfl (fun qc1 => ?_) (fun qc1 => ?_)
  · replace hf := xi_pos hf qc1
    cases hf
    exact XR.retv rfl rfl (fun hret => ⟨_, hret, ⟨rfl, rfl⟩, L0⟩)
  · replace hf := xi_neg hf qc1
    refine XS.go (s_aloadn rfl rfl rfl) ?_
    refine XS.go (s_getr rfl xf12_107 (LY.lt L0 (by decide)) (LY.k1262 L0) (by decide) rfl (LY.r1262_47 L0)) ?_
    refine XS.go (s_aloadn rfl rfl rfl) ?_
    refine XS.go (s_getie rfl xf12_263 (LY.lt L0 (by decide)) (LY.k1262 L0) (by decide) rfl rfl) ?_
    refine XS.go (s_iloadn rfl rfl rfl) ?_
    replace hf := xi_none hf
    obtain ⟨qk2, hf⟩ := hf
    refine XS.go (s_iast rfl (LY.lt L0 (by decide)) (LY.k1295 L0) (inLit (LY.n1295 L0) qk2.1 qk2.2 (by decide))) ?_
    refine XS.go (s_aloadn rfl rfl rfl) ?_
    refine XS.go (s_getr rfl xf12_110 (LY.lt (by simp only [LY_si, LY_sj]; exact L0) (by decide)) (LY.k1262 (by simp only [LY_si, LY_sj]; exact L0)) (by decide) rfl (LY.r1262_48 (by simp only [LY_si, LY_sj]; exact L0))) ?_
    refine XS.go (s_aloadn rfl rfl rfl) ?_
    refine XS.go (s_getie rfl xf12_263 (LY.lt (by simp only [LY_si, LY_sj]; exact L0) (by decide)) (LY.k1262 (by simp only [LY_si, LY_sj]; exact L0)) (by decide) rfl (hi_hsi_na (by decide))) ?_
    refine XS.go (s_iloadn rfl rfl rfl) ?_
    refine XS.go (s_iast rfl (LY.lt (by simp only [LY_si, LY_sj]; exact L0) (by decide)) (LY.k1296 (by simp only [LY_si, LY_sj]; exact L0)) (inLit (LY.n1296 (by simp only [LY_si, LY_sj]; exact L0)) qk2.1 qk2.2 (by decide))) ?_
    refine XS.go (s_aloadn rfl rfl rfl) ?_
    refine XS.go (s_getr rfl xf12_113 (LY.lt (by simp only [LY_si, LY_sj]; exact L0) (by decide)) (LY.k1262 (by simp only [LY_si, LY_sj]; exact L0)) (by decide) rfl (LY.r1262_49 (by simp only [LY_si, LY_sj]; exact L0))) ?_
    refine XS.go (s_aloadn rfl rfl rfl) ?_
    refine XS.go (s_getie rfl xf12_263 (LY.lt (by simp only [LY_si, LY_sj]; exact L0) (by decide)) (LY.k1262 (by simp only [LY_si, LY_sj]; exact L0)) (by decide) rfl ((hi_hsi_na (by decide)).trans (hi_hsi_na (by decide)))) ?_
    refine XS.go (s_iloadn rfl rfl rfl) ?_
    refine XS.go (s_iast rfl (LY.lt (by simp only [LY_si, LY_sj]; exact L0) (by decide)) (LY.k1297 (by simp only [LY_si, LY_sj]; exact L0)) (inLit (LY.n1297 (by simp only [LY_si, LY_sj]; exact L0)) qk2.1 qk2.2 (by decide))) ?_
    refine XS.go (s_aloadn rfl rfl rfl) ?_
    refine XS.go (s_dup rfl rfl) ?_
    refine XS.go (s_getie rfl xf12_263 (LY.lt (by simp only [LY_si, LY_sj]; exact L0) (by decide)) (LY.k1262 (by simp only [LY_si, LY_sj]; exact L0)) (by decide) rfl ((hi_hsi_na (by decide)).trans ((hi_hsi_na (by decide)).trans (hi_hsi_na (by decide))))) ?_
    refine XS.go (s_iconst (v := 1) rfl rfl) ?_
    refine XS.go (s_iadd rfl) ?_
    refine XS.go (s_puti rfl xf12_263 (LY.lt (by simp only [LY_si, LY_sj]; exact L0) (by decide)) (LY.k1262 (by simp only [LY_si, LY_sj]; exact L0)) (by decide) rfl (Or.inl rfl)) ?_
    cases hf
    exact XR.retv rfl rfl (fun hret => ⟨_, hret, ⟨rfl, rfl⟩, (by simp only [LY_si, LY_sj]; exact L0)⟩)
def b_m_bytesOf_30 (h : XH) : Option (Int32 × XH) := (some (4, h))
set_option maxRecDepth 20000 in
theorem kb_m_bytesOf_30 {l : Launch} {G : XG} {d : Nat} {h : XH} {r : Int32 × XH} (L0 : LY h) (hf : b_m_bytesOf_30 h = some r) : XR l G xEX12_bytesOf d (30, [none], [], h) (fun C => ∃ v, xRet xEX12_bytesOf C v ∧ (C.2.2.2 = r.2 ∧ v = some (.int r.1)) ∧ LY r.2) := by
  unfold b_m_bytesOf_30 at hf
  refine XS.go (s_iconst (v := 4) rfl rfl) ?_
  refine XS.go (s_goto (tgt := 36) rfl rfl) ?_
  cases hf
  exact XR.reti rfl rfl (fun hret => ⟨_, hret, ⟨rfl, rfl⟩, L0⟩)
def f_m_bytesOf (a0 : Int32) (h : XH) : Option (Int32 × XH) := (if 2 < a0 then (if 4 < a0 then (if a0 ≤ 6 then (b_m_bytesOf_30 h) else (if ¬ a0 = 9 then (some (8, h)) else (b_m_bytesOf_30 h))) else (some (2, h))) else (some (1, h)))
set_option maxRecDepth 20000 in
theorem kf_m_bytesOf {l : Launch} {G : XG} {d : Nat} {a0 : Int32} {h : XH} {r : Int32 × XH} (L0 : LY h) (hf : f_m_bytesOf a0 h = some r) : XC l G xEX12_bytesOf d [.int a0] h (fun v h2 => (h2 = r.2 ∧ v = some (.int r.1)) ∧ LY r.2) := by
  refine XC.stat xsX12_bytesOf (Nat.le_of_ble_eq_true rfl) ?_
  unfold f_m_bytesOf at hf
  refine XR.norm (L3 := [some (.int a0)]) rfl ?_
  refine XS.go (s_iloadn rfl rfl rfl) ?_
  refine XS.go (s_iconst (v := 2) rfl rfl) ?_
  refine r_icmp_gt (tgt := 9) rfl rfl (fun qc1 => ?_) (fun qc1 => ?_)
  · replace hf := xi_pos hf qc1
    refine XS.go (s_iloadn rfl rfl rfl) ?_
    refine XS.go (s_iconst (v := 4) rfl rfl) ?_
    refine r_icmp_gt (tgt := 18) rfl rfl (fun qc2 => ?_) (fun qc2 => ?_)
    · replace hf := xi_pos hf qc2
      refine XS.go (s_iloadn rfl rfl rfl) ?_
      refine XS.go (s_bipush (v := 6) rfl rfl) ?_
      refine r_icmp_le (tgt := 30) rfl rfl (fun qc3 => ?_) (fun qc3 => ?_)
      · replace hf := xi_pos hf qc3
        exact XR.forget (L2 := [none]) trivial (kb_m_bytesOf_30 L0 hf)
      · replace hf := xi_neg hf qc3
        refine XS.go (s_iloadn rfl rfl rfl) ?_
        refine XS.go (s_bipush (v := 9) rfl rfl) ?_
        refine r_icmp_ne (tgt := 34) rfl rfl (fun qc4 => ?_) (fun qc4 => ?_)
        · replace hf := xi_pos hf qc4
          refine XS.go (s_bipush (v := 8) rfl rfl) ?_
          cases hf
          exact XR.reti rfl rfl (fun hret => ⟨_, hret, ⟨rfl, rfl⟩, L0⟩)
        · replace hf := xi_neg hf qc4
          exact XR.forget (L2 := [none]) trivial (kb_m_bytesOf_30 L0 hf)
    · replace hf := xi_neg hf qc2
      refine XS.go (s_iconst (v := 2) rfl rfl) ?_
      refine XS.go (s_goto (tgt := 36) rfl rfl) ?_
      cases hf
      exact XR.reti rfl rfl (fun hret => ⟨_, hret, ⟨rfl, rfl⟩, L0⟩)
  · replace hf := xi_neg hf qc1
    refine XS.go (s_iconst (v := 1) rfl rfl) ?_
    refine XS.go (s_goto (tgt := 36) rfl rfl) ?_
    cases hf
    exact XR.reti rfl rfl (fun hret => ⟨_, hret, ⟨rfl, rfl⟩, L0⟩)
def b_m_flatten_109 (K20 : Int32 → Int32 → Int32 → Int32 → Int32 → XH → Option (Unit × XH)) (x1 : Int32) (x2 : Int32) (x3 : Int32) (x4 : Int32) (x5 : Int32) (y1 : Int32) (y2 : Int32) (y3 : Int32) (h : XH) : Option (Unit × XH) := (if 0 ≤ y1 ∧ y1 < nI 1536 then (if 0 ≤ x1 ∧ x1 < nI 12 then (K20 x1 x2 x3 x4 (x5 + 1) (hsi (hsi h 1282 (Int32.toNatClampNeg y1) (y2 + y3)) 1280 (Int32.toNatClampNeg x1) ((hi h 1280 (Int32.toNatClampNeg x1)) + 1))) else none) else none)
set_option maxRecDepth 20000 in
theorem kb_m_flatten_109 {l : Launch} {G : XG} {d : Nat} {K20 : Int32 → Int32 → Int32 → Int32 → Int32 → XH → Option (Unit × XH)} {x1 : Int32} {x2 : Int32} {x3 : Int32} {x4 : Int32} {x5 : Int32} {y1 : Int32} {y2 : Int32} {y3 : Int32} {h : XH} {r : Unit × XH} (hK20 : ∀ (x1 : Int32) (x2 : Int32) (x3 : Int32) (x4 : Int32) (x5 : Int32) (h : XH), LY h → K20 x1 x2 x3 x4 x5 h = some r → XR l G xEX12_flatten d (20, [some (.ref 1262), some (.int x1), some (.int x2), some (.int x3), some (.int x4), some (.int x5), none], [], h) (fun C => ∃ v, xRet xEX12_flatten C v ∧ (C.2.2.2 = r.2 ∧ v = none) ∧ LY r.2)) (L0 : LY h) (hf : b_m_flatten_109 K20 x1 x2 x3 x4 x5 y1 y2 y3 h = some r) : XR l G xEX12_flatten d (109, [some (.ref 1262), some (.int x1), some (.int x2), some (.int x3), some (.int x4), some (.int x5), none], [(.int y3), (.int y2), (.int y1), (.ref 1282)], h) (fun C => ∃ v, xRet xEX12_flatten C v ∧ (C.2.2.2 = r.2 ∧ v = none) ∧ LY r.2) := by
  unfold b_m_flatten_109 at hf
  refine XS.go (s_iadd rfl) ?_
  replace hf := xi_none hf
  obtain ⟨qk1, hf⟩ := hf
  refine XS.go (s_iast rfl (LY.lt L0 (by decide)) (LY.k1282 L0) (inLit (LY.n1282 L0) qk1.1 qk1.2 (by decide))) ?_
  refine XS.go (s_aloadn rfl rfl rfl) ?_
  refine XS.go (s_getr rfl xf12_61 (LY.lt (by simp only [LY_si, LY_sj]; exact L0) (by decide)) (LY.k1262 (by simp only [LY_si, LY_sj]; exact L0)) (by decide) rfl (LY.r1262_28 (by simp only [LY_si, LY_sj]; exact L0))) ?_
  refine XS.go (s_iloadn rfl rfl rfl) ?_
  refine XS.go (s_dup2 rfl rfl rfl) ?_
  replace hf := xi_none hf
  obtain ⟨qk2, hf⟩ := hf
  refine XS.go (s_ialde rfl (LY.lt (by simp only [LY_si, LY_sj]; exact L0) (by decide)) (LY.k1280 (by simp only [LY_si, LY_sj]; exact L0)) (inLit (LY.n1280 (by simp only [LY_si, LY_sj]; exact L0)) qk2.1 qk2.2 (by decide)) (hi_hsi_na (by decide))) ?_
  refine XS.go (s_iconst (v := 1) rfl rfl) ?_
  refine XS.go (s_iadd rfl) ?_
  refine XS.go (s_iast rfl (LY.lt (by simp only [LY_si, LY_sj]; exact L0) (by decide)) (LY.k1280 (by simp only [LY_si, LY_sj]; exact L0)) (inLit (LY.n1280 (by simp only [LY_si, LY_sj]; exact L0)) qk2.1 qk2.2 (by decide))) ?_
  refine XS.go (XS.lcl (L3 := [some (.ref 1262), some (.int x1), some (.int x2), some (.int x3), some (.int x4), some (.int (x5 + 1)), none]) (s_inc rfl rfl (Nat.le_of_ble_eq_true rfl)) rfl) ?_
  refine XS.go (s_goto (tgt := 20) rfl rfl) ?_
  exact XR.forget (L2 := [some (.ref 1262), some (.int x1), some (.int x2), some (.int x3), some (.int x4), some (.int (x5 + 1)), none]) ⟨rfl, ⟨rfl, ⟨rfl, ⟨rfl, ⟨rfl, ⟨rfl, trivial⟩⟩⟩⟩⟩⟩ (hK20 x1 x2 x3 x4 (x5 + 1) _ (by simp only [LY_si, LY_sj]; exact L0) hf)
def b_m_flatten_74 (K20 : Int32 → Int32 → Int32 → Int32 → Int32 → XH → Option (Unit × XH)) (x1 : Int32) (x2 : Int32) (x3 : Int32) (x4 : Int32) (x5 : Int32) (x6 : Int32) (y1 : Int32) (y2 : Int32) (h : XH) : Option (Unit × XH) := (if 0 ≤ y1 ∧ y1 < nI 1536 then (if 0 ≤ x2 ∧ x2 < nI 144 then (if ¬ x3 = (-1) then (if 0 ≤ ((128 * x3) + x5) ∧ ((128 * x3) + x5) < nI 1536 then (b_m_flatten_109 K20 x1 x2 x3 x4 x5 x6 (hi h 1279 (Int32.toNatClampNeg x2)) (hi h 1282 (Int32.toNatClampNeg ((128 * x3) + x5))) (hsi h 1281 (Int32.toNatClampNeg y1) y2)) else none) else (b_m_flatten_109 K20 x1 x2 x3 x4 x5 x6 (hi h 1279 (Int32.toNatClampNeg x2)) 0 (hsi h 1281 (Int32.toNatClampNeg y1) y2))) else none) else none)
set_option maxRecDepth 20000 in
theorem kb_m_flatten_74 {l : Launch} {G : XG} {d : Nat} {K20 : Int32 → Int32 → Int32 → Int32 → Int32 → XH → Option (Unit × XH)} {x1 : Int32} {x2 : Int32} {x3 : Int32} {x4 : Int32} {x5 : Int32} {x6 : Int32} {y1 : Int32} {y2 : Int32} {h : XH} {r : Unit × XH} (hK20 : ∀ (x1 : Int32) (x2 : Int32) (x3 : Int32) (x4 : Int32) (x5 : Int32) (h : XH), LY h → K20 x1 x2 x3 x4 x5 h = some r → XR l G xEX12_flatten d (20, [some (.ref 1262), some (.int x1), some (.int x2), some (.int x3), some (.int x4), some (.int x5), none], [], h) (fun C => ∃ v, xRet xEX12_flatten C v ∧ (C.2.2.2 = r.2 ∧ v = none) ∧ LY r.2)) (L0 : LY h) (hf : b_m_flatten_74 K20 x1 x2 x3 x4 x5 x6 y1 y2 h = some r) : XR l G xEX12_flatten d (74, [some (.ref 1262), some (.int x1), some (.int x2), some (.int x3), some (.int x4), some (.int x5), some (.int x6)], [(.int y2), (.int y1), (.ref 1281)], h) (fun C => ∃ v, xRet xEX12_flatten C v ∧ (C.2.2.2 = r.2 ∧ v = none) ∧ LY r.2) := by
  unfold b_m_flatten_74 at hf
  replace hf := xi_none hf
  obtain ⟨qk3, hf⟩ := hf
  refine XS.go (s_iast rfl (LY.lt L0 (by decide)) (LY.k1281 L0) (inLit (LY.n1281 L0) qk3.1 qk3.2 (by decide))) ?_
  refine XS.go (s_aloadn rfl rfl rfl) ?_
  refine XS.go (s_getr rfl xf12_67 (LY.lt (by simp only [LY_si, LY_sj]; exact L0) (by decide)) (LY.k1262 (by simp only [LY_si, LY_sj]; exact L0)) (by decide) rfl (LY.r1262_30 (by simp only [LY_si, LY_sj]; exact L0))) ?_
  refine XS.go (s_iload rfl rfl) ?_
  refine XS.go (s_aloadn rfl rfl rfl) ?_
  refine XS.go (s_getr rfl xf12_58 (LY.lt (by simp only [LY_si, LY_sj]; exact L0) (by decide)) (LY.k1262 (by simp only [LY_si, LY_sj]; exact L0)) (by decide) rfl (LY.r1262_27 (by simp only [LY_si, LY_sj]; exact L0))) ?_
  refine XS.go (s_iloadn rfl rfl rfl) ?_
  replace hf := xi_none hf
  obtain ⟨qk4, hf⟩ := hf
  refine XS.go (s_ialde rfl (LY.lt (by simp only [LY_si, LY_sj]; exact L0) (by decide)) (LY.k1279 (by simp only [LY_si, LY_sj]; exact L0)) (inLit (LY.n1279 (by simp only [LY_si, LY_sj]; exact L0)) qk4.1 qk4.2 (by decide)) (hi_hsi_na (by decide))) ?_
  refine XS.go (s_iloadn rfl rfl rfl) ?_
  refine XS.go (s_iconst (v := (-1)) rfl rfl) ?_
  refine r_icmp_ne (tgt := 96) rfl rfl (fun qc5 => ?_) (fun qc5 => ?_)
  · replace hf := xi_pos hf qc5
    refine XS.go (s_aloadn rfl rfl rfl) ?_
    refine XS.go (s_getr rfl xf12_67 (LY.lt (by simp only [LY_si, LY_sj]; exact L0) (by decide)) (LY.k1262 (by simp only [LY_si, LY_sj]; exact L0)) (by decide) rfl (LY.r1262_30 (by simp only [LY_si, LY_sj]; exact L0))) ?_
    refine XS.go (s_sipush (v := 128) rfl rfl) ?_
    refine XS.go (s_iloadn rfl rfl rfl) ?_
    refine XS.go (s_imul rfl) ?_
    refine XS.go (s_iload rfl rfl) ?_
    refine XS.go (s_iadd rfl) ?_
    replace hf := xi_none hf
    obtain ⟨qk6, hf⟩ := hf
    refine XS.go (s_ialde rfl (LY.lt (by simp only [LY_si, LY_sj]; exact L0) (by decide)) (LY.k1282 (by simp only [LY_si, LY_sj]; exact L0)) (inLit (LY.n1282 (by simp only [LY_si, LY_sj]; exact L0)) qk6.1 qk6.2 (by decide)) (hi_hsi_na (by decide))) ?_
    exact XR.forget (L2 := [some (.ref 1262), some (.int x1), some (.int x2), some (.int x3), some (.int x4), some (.int x5), none]) ⟨rfl, ⟨rfl, ⟨rfl, ⟨rfl, ⟨rfl, ⟨rfl, trivial⟩⟩⟩⟩⟩⟩ (kb_m_flatten_109 hK20 (by simp only [LY_si, LY_sj]; exact L0) hf)
  · replace hf := xi_neg hf qc5
    refine XS.go (s_iconst (v := 0) rfl rfl) ?_
    refine XS.go (s_goto (tgt := 109) rfl rfl) ?_
    exact XR.forget (L2 := [some (.ref 1262), some (.int x1), some (.int x2), some (.int x3), some (.int x4), some (.int x5), none]) ⟨rfl, ⟨rfl, ⟨rfl, ⟨rfl, ⟨rfl, ⟨rfl, trivial⟩⟩⟩⟩⟩⟩ (kb_m_flatten_109 hK20 (by simp only [LY_si, LY_sj]; exact L0) hf)
def s_m_flatten_20 (K20 : Int32 → Int32 → Int32 → Int32 → Int32 → XH → Option (Unit × XH)) (x1 : Int32) (x2 : Int32) (x3 : Int32) (x4 : Int32) (x5 : Int32) (h : XH) : Option (Unit × XH) := (if x4 ≤ x5 then (some ((), h)) else (if 0 ≤ x1 ∧ x1 < nI 12 then (if ¬ x3 = (-1) then (if 0 ≤ ((128 * x3) + x5) ∧ ((128 * x3) + x5) < nI 1536 then (b_m_flatten_74 K20 x1 x2 x3 x4 x5 ((128 * x1) + (hi h 1280 (Int32.toNatClampNeg x1))) ((128 * x1) + (hi h 1280 (Int32.toNatClampNeg x1))) (hi h 1281 (Int32.toNatClampNeg ((128 * x3) + x5))) h) else none) else (if 0 ≤ x2 ∧ x2 < nI 144 then (b_m_flatten_74 K20 x1 x2 x3 x4 x5 ((128 * x1) + (hi h 1280 (Int32.toNatClampNeg x1))) ((128 * x1) + (hi h 1280 (Int32.toNatClampNeg x1))) (hi h 1278 (Int32.toNatClampNeg x2)) h) else none)) else none))
set_option maxRecDepth 20000 in
theorem ks_m_flatten_20 {l : Launch} {G : XG} {d : Nat} {K20 : Int32 → Int32 → Int32 → Int32 → Int32 → XH → Option (Unit × XH)} {x1 : Int32} {x2 : Int32} {x3 : Int32} {x4 : Int32} {x5 : Int32} {h : XH} {r : Unit × XH} (hK20 : ∀ (x1 : Int32) (x2 : Int32) (x3 : Int32) (x4 : Int32) (x5 : Int32) (h : XH), LY h → K20 x1 x2 x3 x4 x5 h = some r → XR l G xEX12_flatten d (20, [some (.ref 1262), some (.int x1), some (.int x2), some (.int x3), some (.int x4), some (.int x5), none], [], h) (fun C => ∃ v, xRet xEX12_flatten C v ∧ (C.2.2.2 = r.2 ∧ v = none) ∧ LY r.2)) (L0 : LY h) (hf : s_m_flatten_20 K20 x1 x2 x3 x4 x5 h = some r) : XR l G xEX12_flatten d (20, [some (.ref 1262), some (.int x1), some (.int x2), some (.int x3), some (.int x4), some (.int x5), none], [], h) (fun C => ∃ v, xRet xEX12_flatten C v ∧ (C.2.2.2 = r.2 ∧ v = none) ∧ LY r.2) := by
  unfold s_m_flatten_20 at hf
  refine XS.go (s_iload rfl rfl) ?_
  refine XS.go (s_iload rfl rfl) ?_
  refine r_icmp_ge (tgt := 127) rfl rfl (fun qc7 => ?_) (fun qc7 => ?_)
  · replace hf := xi_pos hf qc7
    cases hf
    exact XR.retv rfl rfl (fun hret => ⟨_, hret, ⟨rfl, rfl⟩, L0⟩)
  · replace hf := xi_neg hf qc7
    refine XS.go (s_sipush (v := 128) rfl rfl) ?_
    refine XS.go (s_iloadn rfl rfl rfl) ?_
    refine XS.go (s_imul rfl) ?_
    refine XS.go (s_aloadn rfl rfl rfl) ?_
    refine XS.go (s_getr rfl xf12_61 (LY.lt L0 (by decide)) (LY.k1262 L0) (by decide) rfl (LY.r1262_28 L0)) ?_
    refine XS.go (s_iloadn rfl rfl rfl) ?_
    replace hf := xi_none hf
    obtain ⟨qk8, hf⟩ := hf
    refine XS.go (s_ialde rfl (LY.lt L0 (by decide)) (LY.k1280 L0) (inLit (LY.n1280 L0) qk8.1 qk8.2 (by decide)) rfl) ?_
    refine XS.go (s_iadd rfl) ?_
    refine XS.go (XS.lcl (L3 := [some (.ref 1262), some (.int x1), some (.int x2), some (.int x3), some (.int x4), some (.int x5), some (.int ((128 * x1) + (hi h 1280 (Int32.toNatClampNeg x1))))]) (s_istore rfl (Nat.le_of_ble_eq_true rfl)) rfl) ?_
    refine XS.go (s_aloadn rfl rfl rfl) ?_
    refine XS.go (s_getr rfl xf12_64 (LY.lt L0 (by decide)) (LY.k1262 L0) (by decide) rfl (LY.r1262_29 L0)) ?_
    refine XS.go (s_iload rfl rfl) ?_
    refine XS.go (s_iloadn rfl rfl rfl) ?_
    refine XS.go (s_iconst (v := (-1)) rfl rfl) ?_
    refine r_icmp_ne (tgt := 61) rfl rfl (fun qc9 => ?_) (fun qc9 => ?_)
    · replace hf := xi_pos hf qc9
      refine XS.go (s_aloadn rfl rfl rfl) ?_
      refine XS.go (s_getr rfl xf12_64 (LY.lt L0 (by decide)) (LY.k1262 L0) (by decide) rfl (LY.r1262_29 L0)) ?_
      refine XS.go (s_sipush (v := 128) rfl rfl) ?_
      refine XS.go (s_iloadn rfl rfl rfl) ?_
      refine XS.go (s_imul rfl) ?_
      refine XS.go (s_iload rfl rfl) ?_
      refine XS.go (s_iadd rfl) ?_
      replace hf := xi_none hf
      obtain ⟨qk10, hf⟩ := hf
      refine XS.go (s_ialde rfl (LY.lt L0 (by decide)) (LY.k1281 L0) (inLit (LY.n1281 L0) qk10.1 qk10.2 (by decide)) rfl) ?_
      exact XR.forget (L2 := [some (.ref 1262), some (.int x1), some (.int x2), some (.int x3), some (.int x4), some (.int x5), some (.int ((128 * x1) + (hi h 1280 (Int32.toNatClampNeg x1))))]) ⟨rfl, ⟨rfl, ⟨rfl, ⟨rfl, ⟨rfl, ⟨rfl, ⟨rfl, trivial⟩⟩⟩⟩⟩⟩⟩ (kb_m_flatten_74 hK20 L0 hf)
    · replace hf := xi_neg hf qc9
      refine XS.go (s_aloadn rfl rfl rfl) ?_
      refine XS.go (s_getr rfl xf12_55 (LY.lt L0 (by decide)) (LY.k1262 L0) (by decide) rfl (LY.r1262_26 L0)) ?_
      refine XS.go (s_iloadn rfl rfl rfl) ?_
      replace hf := xi_none hf
      obtain ⟨qk11, hf⟩ := hf
      refine XS.go (s_ialde rfl (LY.lt L0 (by decide)) (LY.k1278 L0) (inLit (LY.n1278 L0) qk11.1 qk11.2 (by decide)) rfl) ?_
      refine XS.go (s_goto (tgt := 74) rfl rfl) ?_
      exact XR.forget (L2 := [some (.ref 1262), some (.int x1), some (.int x2), some (.int x3), some (.int x4), some (.int x5), some (.int ((128 * x1) + (hi h 1280 (Int32.toNatClampNeg x1))))]) ⟨rfl, ⟨rfl, ⟨rfl, ⟨rfl, ⟨rfl, ⟨rfl, ⟨rfl, trivial⟩⟩⟩⟩⟩⟩⟩ (kb_m_flatten_74 hK20 L0 hf)
def b_m_flatten_20 : Nat → Int32 → Int32 → Int32 → Int32 → Int32 → XH → Option (Unit × XH)
  | 0, _, _, _, _, _, _ => none
  | n + 1, x1, x2, x3, x4, x5, h => s_m_flatten_20 (b_m_flatten_20 n) x1 x2 x3 x4 x5 h
theorem kb_m_flatten_20 {l : Launch} {G : XG} {d : Nat} {n : Nat} {x1 : Int32} {x2 : Int32} {x3 : Int32} {x4 : Int32} {x5 : Int32} {h : XH} {r : Unit × XH} (L0 : LY h) (hf : b_m_flatten_20 n x1 x2 x3 x4 x5 h = some r) : XR l G xEX12_flatten d (20, [some (.ref 1262), some (.int x1), some (.int x2), some (.int x3), some (.int x4), some (.int x5), none], [], h) (fun C => ∃ v, xRet xEX12_flatten C v ∧ (C.2.2.2 = r.2 ∧ v = none) ∧ LY r.2) := by
  induction n generalizing x1 x2 x3 x4 x5 h with
  | zero => cases hf
  | succ n ih => exact ks_m_flatten_20 (fun x1 x2 x3 x4 x5 h L0 hf => ih (h := h) (x1 := x1) (x2 := x2) (x3 := x3) (x4 := x4) (x5 := x5) L0 hf) L0 hf
def b_m_flatten_15 (x1 : Int32) (x2 : Int32) (x3 : Int32) (y0 : Int32) (h : XH) : Option (Unit × XH) := (b_m_flatten_20 100000 x1 x2 x3 y0 0 h)
set_option maxRecDepth 20000 in
theorem kb_m_flatten_15 {l : Launch} {G : XG} {d : Nat} {x1 : Int32} {x2 : Int32} {x3 : Int32} {y0 : Int32} {h : XH} {r : Unit × XH} (L0 : LY h) (hf : b_m_flatten_15 x1 x2 x3 y0 h = some r) : XR l G xEX12_flatten d (15, [some (.ref 1262), some (.int x1), some (.int x2), some (.int x3), none, none, none], [(.int y0)], h) (fun C => ∃ v, xRet xEX12_flatten C v ∧ (C.2.2.2 = r.2 ∧ v = none) ∧ LY r.2) := by
  unfold b_m_flatten_15 at hf
  refine XS.go (XS.lcl (L3 := [some (.ref 1262), some (.int x1), some (.int x2), some (.int x3), some (.int y0), none, none]) (s_istore rfl (Nat.le_of_ble_eq_true rfl)) rfl) ?_
  refine XS.go (s_iconst (v := 0) rfl rfl) ?_
  refine XS.go (XS.lcl (L3 := [some (.ref 1262), some (.int x1), some (.int x2), some (.int x3), some (.int y0), some (.int 0), none]) (s_istore rfl (Nat.le_of_ble_eq_true rfl)) rfl) ?_
  exact XR.forget (L2 := [some (.ref 1262), some (.int x1), some (.int x2), some (.int x3), some (.int y0), some (.int 0), none]) ⟨rfl, ⟨rfl, ⟨rfl, ⟨rfl, ⟨rfl, ⟨rfl, trivial⟩⟩⟩⟩⟩⟩ (kb_m_flatten_20 L0 hf)
def f_m_flatten (a0 : Int32) (a1 : Int32) (a2 : Int32) (h : XH) : Option (Unit × XH) := (if ¬ a2 = (-1) then (if 0 ≤ a2 ∧ a2 < nI 12 then (b_m_flatten_15 a0 a1 a2 (hi h 1280 (Int32.toNatClampNeg a2)) h) else none) else (b_m_flatten_15 a0 a1 a2 1 h))
set_option maxRecDepth 20000 in
theorem kf_m_flatten {l : Launch} {G : XG} {d : Nat} {a0 : Int32} {a1 : Int32} {a2 : Int32} {h : XH} {r : Unit × XH} (L0 : LY h) (hf : f_m_flatten a0 a1 a2 h = some r) : XC l G xEX12_flatten d [.ref 1262, .int a0, .int a1, .int a2] h (fun v h2 => (h2 = r.2 ∧ v = none) ∧ LY r.2) := by
  refine XC.virt xvX12_flatten (Nat.le_of_ble_eq_true rfl) ?_
  unfold f_m_flatten at hf
  refine XR.norm (L3 := [some (.ref 1262), some (.int a0), some (.int a1), some (.int a2), none, none, none]) rfl ?_
  refine XS.go (s_iloadn rfl rfl rfl) ?_
  refine XS.go (s_iconst (v := (-1)) rfl rfl) ?_
  refine r_icmp_ne (tgt := 9) rfl rfl (fun qc12 => ?_) (fun qc12 => ?_)
  · replace hf := xi_pos hf qc12
    refine XS.go (s_aloadn rfl rfl rfl) ?_
    refine XS.go (s_getr rfl xf12_61 (LY.lt L0 (by decide)) (LY.k1262 L0) (by decide) rfl (LY.r1262_28 L0)) ?_
    refine XS.go (s_iloadn rfl rfl rfl) ?_
    replace hf := xi_none hf
    obtain ⟨qk13, hf⟩ := hf
    refine XS.go (s_ialde rfl (LY.lt L0 (by decide)) (LY.k1280 L0) (inLit (LY.n1280 L0) qk13.1 qk13.2 (by decide)) rfl) ?_
    exact XR.forget (L2 := [some (.ref 1262), some (.int a0), some (.int a1), some (.int a2), none, none, none]) ⟨rfl, ⟨rfl, ⟨rfl, ⟨rfl, trivial⟩⟩⟩⟩ (kb_m_flatten_15 L0 hf)
  · replace hf := xi_neg hf qc12
    refine XS.go (s_iconst (v := 1) rfl rfl) ?_
    refine XS.go (s_goto (tgt := 15) rfl rfl) ?_
    exact XR.forget (L2 := [some (.ref 1262), some (.int a0), some (.int a1), some (.int a2), none, none, none]) ⟨rfl, ⟨rfl, ⟨rfl, ⟨rfl, trivial⟩⟩⟩⟩ (kb_m_flatten_15 L0 hf)
def f_m_upTo (a0 : Int32) (a1 : Int32) (h : XH) : Option (Int32 × XH) := (if ¬ a1 = 0 then (some (((((a0 + a1) - 1) / a1) * a1), h)) else none)
set_option maxRecDepth 20000 in
theorem kf_m_upTo {l : Launch} {G : XG} {d : Nat} {a0 : Int32} {a1 : Int32} {h : XH} {r : Int32 × XH} (L0 : LY h) (hf : f_m_upTo a0 a1 h = some r) : XC l G xEX12_upTo d [.int a0, .int a1] h (fun v h2 => (h2 = r.2 ∧ v = some (.int r.1)) ∧ LY r.2) := by
  refine XC.stat xsX12_upTo (Nat.le_of_ble_eq_true rfl) ?_
  unfold f_m_upTo at hf
  refine XR.norm (L3 := [some (.int a0), some (.int a1)]) rfl ?_
  refine XS.go (s_iloadn rfl rfl rfl) ?_
  refine XS.go (s_iloadn rfl rfl rfl) ?_
  refine XS.go (s_iadd rfl) ?_
  refine XS.go (s_iconst (v := 1) rfl rfl) ?_
  refine XS.go (s_isub rfl) ?_
  refine XS.go (s_iloadn rfl rfl rfl) ?_
  replace hf := xi_none hf
  obtain ⟨qk1, hf⟩ := hf
  refine XS.go (s_idiv qk1 rfl) ?_
  refine XS.go (s_iloadn rfl rfl rfl) ?_
  refine XS.go (s_imul rfl) ?_
  cases hf
  exact XR.reti rfl rfl (fun hret => ⟨_, hret, ⟨rfl, rfl⟩, L0⟩)
def b_m_structType_258 (h : XH) : Option (Unit × XH) := (Option.bind (f_m_take h) fun r1 => (some ((), r1.2)))
set_option maxRecDepth 20000 in
theorem kb_m_structType_258 {l : Launch} {G : XG} {d : Nat} {h : XH} {r : Unit × XH} (L0 : LY h) (hf : b_m_structType_258 h = some r) : XR l G xEX12_structType (d + 2) (258, [some (.ref 1262), none, none, none, none, none], [], h) (fun C => ∃ v, xRet xEX12_structType C v ∧ (C.2.2.2 = r.2 ∧ v = none) ∧ LY r.2) := by
  unfold b_m_structType_258 at hf
  refine XS.go (s_aloadn rfl rfl rfl) ?_
  replace hf := xb_some hf
  obtain ⟨r1, e2, hf⟩ := hf
  refine r_callv rfl xvX12_take xm12_240 (kf_m_take (d := d) L0 e2) (LY.lt L0 (by decide)) (LY.k1262 L0) (by decide) rfl rfl (dl0 (by decide)) (by decide) (Nat.le_of_ble_eq_true rfl) ?_
  rintro _ _ ⟨⟨rfl, rfl⟩, L3⟩
  cases hf
  exact XR.retv rfl rfl (fun hret => ⟨_, hret, ⟨rfl, rfl⟩, L3⟩)
def b_m_structType_238 (x1 : Int32) (x2 : Int32) (x3 : Int32) (y1 : Int32) (y2 : Int32) (h : XH) : Option (Unit × XH) := (if 0 ≤ y1 ∧ y1 < nI 12 then (if 0 ≤ x1 ∧ x1 < nI 12 then (if 128 < (hi h 1274 (Int32.toNatClampNeg x1)) then (b_m_structType_258 (hsi h 1275 (Int32.toNatClampNeg y1) y2)) else (Option.bind (f_m_flatten x1 x2 x3 (hsi h 1275 (Int32.toNatClampNeg y1) y2)) fun r7 => (b_m_structType_258 r7.2))) else none) else none)
set_option maxRecDepth 20000 in
theorem kb_m_structType_238 {l : Launch} {G : XG} {d : Nat} {x1 : Int32} {x2 : Int32} {x3 : Int32} {y1 : Int32} {y2 : Int32} {h : XH} {r : Unit × XH} (L0 : LY h) (hf : b_m_structType_238 x1 x2 x3 y1 y2 h = some r) : XR l G xEX12_structType (d + 2) (238, [some (.ref 1262), some (.int x1), some (.int x2), some (.int x3), none, none], [(.int y2), (.int y1), (.ref 1275)], h) (fun C => ∃ v, xRet xEX12_structType C v ∧ (C.2.2.2 = r.2 ∧ v = none) ∧ LY r.2) := by
  unfold b_m_structType_238 at hf
  replace hf := xi_none hf
  obtain ⟨qk4, hf⟩ := hf
  refine XS.go (s_iast rfl (LY.lt L0 (by decide)) (LY.k1275 L0) (inLit (LY.n1275 L0) qk4.1 qk4.2 (by decide))) ?_
  refine XS.go (s_aloadn rfl rfl rfl) ?_
  refine XS.go (s_getr rfl xf12_43 (LY.lt (by simp only [LY_si, LY_sj]; exact L0) (by decide)) (LY.k1262 (by simp only [LY_si, LY_sj]; exact L0)) (by decide) rfl (LY.r1262_22 (by simp only [LY_si, LY_sj]; exact L0))) ?_
  refine XS.go (s_iloadn rfl rfl rfl) ?_
  replace hf := xi_none hf
  obtain ⟨qk5, hf⟩ := hf
  refine XS.go (s_ialde rfl (LY.lt (by simp only [LY_si, LY_sj]; exact L0) (by decide)) (LY.k1274 (by simp only [LY_si, LY_sj]; exact L0)) (inLit (LY.n1274 (by simp only [LY_si, LY_sj]; exact L0)) qk5.1 qk5.2 (by decide)) (hi_hsi_na (by decide))) ?_
  refine XS.go (s_sipush (v := 128) rfl rfl) ?_
  refine r_icmp_gt (tgt := 258) rfl rfl (fun qc6 => ?_) (fun qc6 => ?_)
  · replace hf := xi_pos hf qc6
    exact XR.forget (L2 := [some (.ref 1262), none, none, none, none, none]) ⟨rfl, trivial⟩ (kb_m_structType_258 (by simp only [LY_si, LY_sj]; exact L0) hf)
  · replace hf := xi_neg hf qc6
    refine XS.go (s_aloadn rfl rfl rfl) ?_
    refine XS.go (s_iloadn rfl rfl rfl) ?_
    refine XS.go (s_iloadn rfl rfl rfl) ?_
    refine XS.go (s_iloadn rfl rfl rfl) ?_
    replace hf := xb_some hf
    obtain ⟨r7, e8, hf⟩ := hf
    refine r_callv rfl xvX12_flatten xm12_318 (kf_m_flatten (d := d) (by simp only [LY_si, LY_sj]; exact L0) e8) (LY.lt (by simp only [LY_si, LY_sj]; exact L0) (by decide)) (LY.k1262 (by simp only [LY_si, LY_sj]; exact L0)) (by decide) rfl rfl (dl0 (by decide)) (by decide) (Nat.le_of_ble_eq_true rfl) ?_
    rintro _ _ ⟨⟨rfl, rfl⟩, L9⟩
    exact XR.forget (L2 := [some (.ref 1262), none, none, none, none, none]) ⟨rfl, trivial⟩ (kb_m_structType_258 L9 hf)
def b_m_structType_177 (x1 : Int32) (x2 : Int32) (x3 : Int32) (x4 : Int32) (y0 : Int32) (h : XH) : Option (Unit × XH) := (if 0 ≤ x1 ∧ x1 < nI 12 then (Option.bind (f_m_upTo (hi h 1274 (Int32.toNatClampNeg x1)) x4 h) fun r11 => (if 0 ≤ x2 ∧ x2 < nI 144 then (if 0 ≤ x1 ∧ x1 < nI 12 then (if x4 ≤ (hi r11.2 1275 (Int32.toNatClampNeg x1)) then (b_m_structType_238 x1 x2 x3 x1 (hi r11.2 1275 (Int32.toNatClampNeg x1)) (hsi (hsi r11.2 1279 (Int32.toNatClampNeg x2) r11.1) 1274 (Int32.toNatClampNeg x1) (r11.1 + y0))) else (b_m_structType_238 x1 x2 x3 x1 x4 (hsi (hsi r11.2 1279 (Int32.toNatClampNeg x2) r11.1) 1274 (Int32.toNatClampNeg x1) (r11.1 + y0)))) else none) else none)) else none)
set_option maxRecDepth 20000 in
theorem kb_m_structType_177 {l : Launch} {G : XG} {d : Nat} {x1 : Int32} {x2 : Int32} {x3 : Int32} {x4 : Int32} {y0 : Int32} {h : XH} {r : Unit × XH} (L0 : LY h) (hf : b_m_structType_177 x1 x2 x3 x4 y0 h = some r) : XR l G xEX12_structType (d + 2) (177, [some (.ref 1262), some (.int x1), some (.int x2), some (.int x3), some (.int x4), none], [(.int y0)], h) (fun C => ∃ v, xRet xEX12_structType C v ∧ (C.2.2.2 = r.2 ∧ v = none) ∧ LY r.2) := by
  unfold b_m_structType_177 at hf
  refine XS.go (XS.lcl (L3 := [some (.ref 1262), some (.int x1), some (.int x2), some (.int x3), some (.int x4), some (.int y0)]) (s_istore rfl (Nat.le_of_ble_eq_true rfl)) rfl) ?_
  refine XS.go (s_aloadn rfl rfl rfl) ?_
  refine XS.go (s_getr rfl xf12_58 (LY.lt L0 (by decide)) (LY.k1262 L0) (by decide) rfl (LY.r1262_27 L0)) ?_
  refine XS.go (s_iloadn rfl rfl rfl) ?_
  refine XS.go (s_aloadn rfl rfl rfl) ?_
  refine XS.go (s_getr rfl xf12_43 (LY.lt L0 (by decide)) (LY.k1262 L0) (by decide) rfl (LY.r1262_22 L0)) ?_
  refine XS.go (s_iloadn rfl rfl rfl) ?_
  replace hf := xi_none hf
  obtain ⟨qk10, hf⟩ := hf
  refine XS.go (s_ialde rfl (LY.lt L0 (by decide)) (LY.k1274 L0) (inLit (LY.n1274 L0) qk10.1 qk10.2 (by decide)) rfl) ?_
  refine XS.go (s_iload rfl rfl) ?_
  replace hf := xb_some hf
  obtain ⟨r11, e12, hf⟩ := hf
  refine r_calls rfl xsX12_upTo xm12_309 (kf_m_upTo (d := d) L0 e12) rfl rfl (dl0 (by decide)) (by decide) (Nat.le_of_ble_eq_true rfl) ?_
  rintro _ _ ⟨⟨rfl, rfl⟩, L13⟩
  replace hf := xi_none hf
  obtain ⟨qk14, hf⟩ := hf
  refine XS.go (s_iast rfl (LY.lt L13 (by decide)) (LY.k1279 L13) (inLit (LY.n1279 L13) qk14.1 qk14.2 (by decide))) ?_
  refine XS.go (s_aloadn rfl rfl rfl) ?_
  refine XS.go (s_getr rfl xf12_43 (LY.lt (by simp only [LY_si, LY_sj]; exact L13) (by decide)) (LY.k1262 (by simp only [LY_si, LY_sj]; exact L13)) (by decide) rfl (LY.r1262_22 (by simp only [LY_si, LY_sj]; exact L13))) ?_
  refine XS.go (s_iloadn rfl rfl rfl) ?_
  refine XS.go (s_aloadn rfl rfl rfl) ?_
  refine XS.go (s_getr rfl xf12_58 (LY.lt (by simp only [LY_si, LY_sj]; exact L13) (by decide)) (LY.k1262 (by simp only [LY_si, LY_sj]; exact L13)) (by decide) rfl (LY.r1262_27 (by simp only [LY_si, LY_sj]; exact L13))) ?_
  refine XS.go (s_iloadn rfl rfl rfl) ?_
  refine XS.go (s_ialde rfl (LY.lt (by simp only [LY_si, LY_sj]; exact L13) (by decide)) (LY.k1279 (by simp only [LY_si, LY_sj]; exact L13)) (inLit (LY.n1279 (by simp only [LY_si, LY_sj]; exact L13)) qk14.1 qk14.2 (by decide)) hi_hsi_eq) ?_
  refine XS.go (s_iload rfl rfl) ?_
  refine XS.go (s_iadd rfl) ?_
  replace hf := xi_none hf
  obtain ⟨qk15, hf⟩ := hf
  refine XS.go (s_iast rfl (LY.lt (by simp only [LY_si, LY_sj]; exact L13) (by decide)) (LY.k1274 (by simp only [LY_si, LY_sj]; exact L13)) (inLit (LY.n1274 (by simp only [LY_si, LY_sj]; exact L13)) qk15.1 qk15.2 (by decide))) ?_
  refine XS.go (s_aloadn rfl rfl rfl) ?_
  refine XS.go (s_getr rfl xf12_46 (LY.lt (by simp only [LY_si, LY_sj]; exact L13) (by decide)) (LY.k1262 (by simp only [LY_si, LY_sj]; exact L13)) (by decide) rfl (LY.r1262_23 (by simp only [LY_si, LY_sj]; exact L13))) ?_
  refine XS.go (s_iloadn rfl rfl rfl) ?_
  refine XS.go (s_iload rfl rfl) ?_
  refine XS.go (s_aloadn rfl rfl rfl) ?_
  refine XS.go (s_getr rfl xf12_46 (LY.lt (by simp only [LY_si, LY_sj]; exact L13) (by decide)) (LY.k1262 (by simp only [LY_si, LY_sj]; exact L13)) (by decide) rfl (LY.r1262_23 (by simp only [LY_si, LY_sj]; exact L13))) ?_
  refine XS.go (s_iloadn rfl rfl rfl) ?_
  refine XS.go (s_ialde rfl (LY.lt (by simp only [LY_si, LY_sj]; exact L13) (by decide)) (LY.k1275 (by simp only [LY_si, LY_sj]; exact L13)) (inLit (LY.n1275 (by simp only [LY_si, LY_sj]; exact L13)) qk15.1 qk15.2 (by decide)) ((hi_hsi_na (by decide)).trans (hi_hsi_na (by decide)))) ?_
  refine r_icmp_le (tgt := 232) rfl rfl (fun qc16 => ?_) (fun qc16 => ?_)
  · replace hf := xi_pos hf qc16
    refine XS.go (s_aloadn rfl rfl rfl) ?_
    refine XS.go (s_getr rfl xf12_46 (LY.lt (by simp only [LY_si, LY_sj]; exact L13) (by decide)) (LY.k1262 (by simp only [LY_si, LY_sj]; exact L13)) (by decide) rfl (LY.r1262_23 (by simp only [LY_si, LY_sj]; exact L13))) ?_
    refine XS.go (s_iloadn rfl rfl rfl) ?_
    refine XS.go (s_ialde rfl (LY.lt (by simp only [LY_si, LY_sj]; exact L13) (by decide)) (LY.k1275 (by simp only [LY_si, LY_sj]; exact L13)) (inLit (LY.n1275 (by simp only [LY_si, LY_sj]; exact L13)) qk15.1 qk15.2 (by decide)) ((hi_hsi_na (by decide)).trans (hi_hsi_na (by decide)))) ?_
    exact XR.forget (L2 := [some (.ref 1262), some (.int x1), some (.int x2), some (.int x3), none, none]) ⟨rfl, ⟨rfl, ⟨rfl, ⟨rfl, trivial⟩⟩⟩⟩ (kb_m_structType_238 (by simp only [LY_si, LY_sj]; exact L13) hf)
  · replace hf := xi_neg hf qc16
    refine XS.go (s_iload rfl rfl) ?_
    refine XS.go (s_goto (tgt := 238) rfl rfl) ?_
    exact XR.forget (L2 := [some (.ref 1262), some (.int x1), some (.int x2), some (.int x3), none, none]) ⟨rfl, ⟨rfl, ⟨rfl, ⟨rfl, trivial⟩⟩⟩⟩ (kb_m_structType_238 (by simp only [LY_si, LY_sj]; exact L13) hf)
def b_m_structType_159 (x1 : Int32) (x2 : Int32) (x3 : Int32) (y0 : Int32) (h : XH) : Option (Unit × XH) := (if ¬ x3 = (-1) then (if 0 ≤ x3 ∧ x3 < nI 12 then (b_m_structType_177 x1 x2 x3 y0 (hi h 1274 (Int32.toNatClampNeg x3)) h) else none) else (b_m_structType_177 x1 x2 x3 y0 y0 h))
set_option maxRecDepth 20000 in
theorem kb_m_structType_159 {l : Launch} {G : XG} {d : Nat} {x1 : Int32} {x2 : Int32} {x3 : Int32} {y0 : Int32} {h : XH} {r : Unit × XH} (L0 : LY h) (hf : b_m_structType_159 x1 x2 x3 y0 h = some r) : XR l G xEX12_structType (d + 2) (159, [some (.ref 1262), some (.int x1), some (.int x2), some (.int x3), none, none], [(.int y0)], h) (fun C => ∃ v, xRet xEX12_structType C v ∧ (C.2.2.2 = r.2 ∧ v = none) ∧ LY r.2) := by
  unfold b_m_structType_159 at hf
  refine XS.go (XS.lcl (L3 := [some (.ref 1262), some (.int x1), some (.int x2), some (.int x3), some (.int y0), none]) (s_istore rfl (Nat.le_of_ble_eq_true rfl)) rfl) ?_
  refine XS.go (s_iloadn rfl rfl rfl) ?_
  refine XS.go (s_iconst (v := (-1)) rfl rfl) ?_
  refine r_icmp_ne (tgt := 171) rfl rfl (fun qc17 => ?_) (fun qc17 => ?_)
  · replace hf := xi_pos hf qc17
    refine XS.go (s_aloadn rfl rfl rfl) ?_
    refine XS.go (s_getr rfl xf12_43 (LY.lt L0 (by decide)) (LY.k1262 L0) (by decide) rfl (LY.r1262_22 L0)) ?_
    refine XS.go (s_iloadn rfl rfl rfl) ?_
    replace hf := xi_none hf
    obtain ⟨qk18, hf⟩ := hf
    refine XS.go (s_ialde rfl (LY.lt L0 (by decide)) (LY.k1274 L0) (inLit (LY.n1274 L0) qk18.1 qk18.2 (by decide)) rfl) ?_
    exact XR.forget (L2 := [some (.ref 1262), some (.int x1), some (.int x2), some (.int x3), some (.int y0), none]) ⟨rfl, ⟨rfl, ⟨rfl, ⟨rfl, ⟨rfl, trivial⟩⟩⟩⟩⟩ (kb_m_structType_177 L0 hf)
  · replace hf := xi_neg hf qc17
    refine XS.go (s_iload rfl rfl) ?_
    refine XS.go (s_goto (tgt := 177) rfl rfl) ?_
    exact XR.forget (L2 := [some (.ref 1262), some (.int x1), some (.int x2), some (.int x3), some (.int y0), none]) ⟨rfl, ⟨rfl, ⟨rfl, ⟨rfl, ⟨rfl, trivial⟩⟩⟩⟩⟩ (kb_m_structType_177 L0 hf)
def b_m_structType_132 (x1 : Int32) (x2 : Int32) (x3 : Int32) (y1 : Int32) (y2 : Int32) (h : XH) : Option (Unit × XH) := (if 0 ≤ y1 ∧ y1 < nI 144 then (if ¬ x3 = (-1) then (if 0 ≤ x3 ∧ x3 < nI 12 then (b_m_structType_159 x1 x2 x3 (hi h 1275 (Int32.toNatClampNeg x3)) (hsi h 1278 (Int32.toNatClampNeg y1) y2)) else none) else (if 0 ≤ (hi h 1262 13) ∧ (hi h 1262 13) < nI 4001 then (Option.bind (f_m_bytesOf (hi h 1269 (Int32.toNatClampNeg (hi h 1262 13))) (hsi h 1278 (Int32.toNatClampNeg y1) y2)) fun r23 => (b_m_structType_159 x1 x2 x3 r23.1 r23.2)) else none)) else none)
set_option maxRecDepth 20000 in
theorem kb_m_structType_132 {l : Launch} {G : XG} {d : Nat} {x1 : Int32} {x2 : Int32} {x3 : Int32} {y1 : Int32} {y2 : Int32} {h : XH} {r : Unit × XH} (L0 : LY h) (hf : b_m_structType_132 x1 x2 x3 y1 y2 h = some r) : XR l G xEX12_structType (d + 2) (132, [some (.ref 1262), some (.int x1), some (.int x2), some (.int x3), none, none], [(.int y2), (.int y1), (.ref 1278)], h) (fun C => ∃ v, xRet xEX12_structType C v ∧ (C.2.2.2 = r.2 ∧ v = none) ∧ LY r.2) := by
  unfold b_m_structType_132 at hf
  replace hf := xi_none hf
  obtain ⟨qk19, hf⟩ := hf
  refine XS.go (s_iast rfl (LY.lt L0 (by decide)) (LY.k1278 L0) (inLit (LY.n1278 L0) qk19.1 qk19.2 (by decide))) ?_
  refine XS.go (s_iloadn rfl rfl rfl) ?_
  refine XS.go (s_iconst (v := (-1)) rfl rfl) ?_
  refine r_icmp_ne (tgt := 153) rfl rfl (fun qc20 => ?_) (fun qc20 => ?_)
  · replace hf := xi_pos hf qc20
    refine XS.go (s_aloadn rfl rfl rfl) ?_
    refine XS.go (s_getr rfl xf12_46 (LY.lt (by simp only [LY_si, LY_sj]; exact L0) (by decide)) (LY.k1262 (by simp only [LY_si, LY_sj]; exact L0)) (by decide) rfl (LY.r1262_23 (by simp only [LY_si, LY_sj]; exact L0))) ?_
    refine XS.go (s_iloadn rfl rfl rfl) ?_
    replace hf := xi_none hf
    obtain ⟨qk21, hf⟩ := hf
    refine XS.go (s_ialde rfl (LY.lt (by simp only [LY_si, LY_sj]; exact L0) (by decide)) (LY.k1275 (by simp only [LY_si, LY_sj]; exact L0)) (inLit (LY.n1275 (by simp only [LY_si, LY_sj]; exact L0)) qk21.1 qk21.2 (by decide)) (hi_hsi_na (by decide))) ?_
    exact XR.forget (L2 := [some (.ref 1262), some (.int x1), some (.int x2), some (.int x3), none, none]) ⟨rfl, ⟨rfl, ⟨rfl, ⟨rfl, trivial⟩⟩⟩⟩ (kb_m_structType_159 (by simp only [LY_si, LY_sj]; exact L0) hf)
  · replace hf := xi_neg hf qc20
    refine XS.go (s_aloadn rfl rfl rfl) ?_
    refine XS.go (s_getr rfl xf12_28 (LY.lt (by simp only [LY_si, LY_sj]; exact L0) (by decide)) (LY.k1262 (by simp only [LY_si, LY_sj]; exact L0)) (by decide) rfl (LY.r1262_11 (by simp only [LY_si, LY_sj]; exact L0))) ?_
    refine XS.go (s_aloadn rfl rfl rfl) ?_
    refine XS.go (s_getie rfl xf12_224 (LY.lt (by simp only [LY_si, LY_sj]; exact L0) (by decide)) (LY.k1262 (by simp only [LY_si, LY_sj]; exact L0)) (by decide) rfl (hi_hsi_na (by decide))) ?_
    replace hf := xi_none hf
    obtain ⟨qk22, hf⟩ := hf
    refine XS.go (s_ialde rfl (LY.lt (by simp only [LY_si, LY_sj]; exact L0) (by decide)) (LY.k1269 (by simp only [LY_si, LY_sj]; exact L0)) (inLit (LY.n1269 (by simp only [LY_si, LY_sj]; exact L0)) qk22.1 qk22.2 (by decide)) (hi_hsi_na (by decide))) ?_
    replace hf := xb_some hf
    obtain ⟨r23, e24, hf⟩ := hf
    refine r_calls rfl xsX12_bytesOf xm12_315 (kf_m_bytesOf (d := d) (by simp only [LY_si, LY_sj]; exact L0) e24) rfl rfl (dl0 (by decide)) (by decide) (Nat.le_of_ble_eq_true rfl) ?_
    rintro _ _ ⟨⟨rfl, rfl⟩, L25⟩
    refine XS.go (s_goto (tgt := 159) rfl rfl) ?_
    exact XR.forget (L2 := [some (.ref 1262), some (.int x1), some (.int x2), some (.int x3), none, none]) ⟨rfl, ⟨rfl, ⟨rfl, ⟨rfl, trivial⟩⟩⟩⟩ (kb_m_structType_159 L25 hf)
def b_m_structType_108 (x1 : Int32) (x2 : Int32) (x3 : Int32) (y1 : Int32) (y2 : Int32) (h : XH) : Option (Unit × XH) := (if 0 ≤ y1 ∧ y1 < nI 144 then (if ¬ x3 = (-1) then (b_m_structType_132 x1 x2 x3 x2 x3 (hsi h 1277 (Int32.toNatClampNeg y1) y2)) else (if 0 ≤ (hi h 1262 13) ∧ (hi h 1262 13) < nI 4001 then (b_m_structType_132 x1 x2 x3 x2 (hi h 1269 (Int32.toNatClampNeg (hi h 1262 13))) (hsi h 1277 (Int32.toNatClampNeg y1) y2)) else none)) else none)
set_option maxRecDepth 20000 in
theorem kb_m_structType_108 {l : Launch} {G : XG} {d : Nat} {x1 : Int32} {x2 : Int32} {x3 : Int32} {y1 : Int32} {y2 : Int32} {h : XH} {r : Unit × XH} (L0 : LY h) (hf : b_m_structType_108 x1 x2 x3 y1 y2 h = some r) : XR l G xEX12_structType (d + 2) (108, [some (.ref 1262), some (.int x1), some (.int x2), some (.int x3), none, none], [(.int y2), (.int y1), (.ref 1277)], h) (fun C => ∃ v, xRet xEX12_structType C v ∧ (C.2.2.2 = r.2 ∧ v = none) ∧ LY r.2) := by
  unfold b_m_structType_108 at hf
  replace hf := xi_none hf
  obtain ⟨qk26, hf⟩ := hf
  refine XS.go (s_iast rfl (LY.lt L0 (by decide)) (LY.k1277 L0) (inLit (LY.n1277 L0) qk26.1 qk26.2 (by decide))) ?_
  refine XS.go (s_aloadn rfl rfl rfl) ?_
  refine XS.go (s_getr rfl xf12_55 (LY.lt (by simp only [LY_si, LY_sj]; exact L0) (by decide)) (LY.k1262 (by simp only [LY_si, LY_sj]; exact L0)) (by decide) rfl (LY.r1262_26 (by simp only [LY_si, LY_sj]; exact L0))) ?_
  refine XS.go (s_iloadn rfl rfl rfl) ?_
  refine XS.go (s_iloadn rfl rfl rfl) ?_
  refine XS.go (s_iconst (v := (-1)) rfl rfl) ?_
  refine r_icmp_ne (tgt := 131) rfl rfl (fun qc27 => ?_) (fun qc27 => ?_)
  · replace hf := xi_pos hf qc27
    refine XS.go (s_iloadn rfl rfl rfl) ?_
    exact XR.forget (L2 := [some (.ref 1262), some (.int x1), some (.int x2), some (.int x3), none, none]) ⟨rfl, ⟨rfl, ⟨rfl, ⟨rfl, trivial⟩⟩⟩⟩ (kb_m_structType_132 (by simp only [LY_si, LY_sj]; exact L0) hf)
  · replace hf := xi_neg hf qc27
    refine XS.go (s_aloadn rfl rfl rfl) ?_
    refine XS.go (s_getr rfl xf12_28 (LY.lt (by simp only [LY_si, LY_sj]; exact L0) (by decide)) (LY.k1262 (by simp only [LY_si, LY_sj]; exact L0)) (by decide) rfl (LY.r1262_11 (by simp only [LY_si, LY_sj]; exact L0))) ?_
    refine XS.go (s_aloadn rfl rfl rfl) ?_
    refine XS.go (s_getie rfl xf12_224 (LY.lt (by simp only [LY_si, LY_sj]; exact L0) (by decide)) (LY.k1262 (by simp only [LY_si, LY_sj]; exact L0)) (by decide) rfl (hi_hsi_na (by decide))) ?_
    replace hf := xi_none hf
    obtain ⟨qk28, hf⟩ := hf
    refine XS.go (s_ialde rfl (LY.lt (by simp only [LY_si, LY_sj]; exact L0) (by decide)) (LY.k1269 (by simp only [LY_si, LY_sj]; exact L0)) (inLit (LY.n1269 (by simp only [LY_si, LY_sj]; exact L0)) qk28.1 qk28.2 (by decide)) (hi_hsi_na (by decide))) ?_
    refine XS.go (s_goto (tgt := 132) rfl rfl) ?_
    exact XR.forget (L2 := [some (.ref 1262), some (.int x1), some (.int x2), some (.int x3), none, none]) ⟨rfl, ⟨rfl, ⟨rfl, ⟨rfl, trivial⟩⟩⟩⟩ (kb_m_structType_132 (by simp only [LY_si, LY_sj]; exact L0) hf)
def b_m_structType_93 (x1 : Int32) (x2 : Int32) (x3 : Int32) (h : XH) : Option (Unit × XH) := (if ¬ x3 = (-1) then (b_m_structType_108 x1 x2 x3 x2 2 h) else (b_m_structType_108 x1 x2 x3 x2 0 h))
set_option maxRecDepth 20000 in
theorem kb_m_structType_93 {l : Launch} {G : XG} {d : Nat} {x1 : Int32} {x2 : Int32} {x3 : Int32} {h : XH} {r : Unit × XH} (L0 : LY h) (hf : b_m_structType_93 x1 x2 x3 h = some r) : XR l G xEX12_structType (d + 2) (93, [some (.ref 1262), some (.int x1), some (.int x2), some (.int x3), none, none], [], h) (fun C => ∃ v, xRet xEX12_structType C v ∧ (C.2.2.2 = r.2 ∧ v = none) ∧ LY r.2) := by
  unfold b_m_structType_93 at hf
  refine XS.go (s_aloadn rfl rfl rfl) ?_
  refine XS.go (s_getr rfl xf12_52 (LY.lt L0 (by decide)) (LY.k1262 L0) (by decide) rfl (LY.r1262_25 L0)) ?_
  refine XS.go (s_iloadn rfl rfl rfl) ?_
  refine XS.go (s_iloadn rfl rfl rfl) ?_
  refine XS.go (s_iconst (v := (-1)) rfl rfl) ?_
  refine r_icmp_ne (tgt := 107) rfl rfl (fun qc29 => ?_) (fun qc29 => ?_)
  · replace hf := xi_pos hf qc29
    refine XS.go (s_iconst (v := 2) rfl rfl) ?_
    exact XR.forget (L2 := [some (.ref 1262), some (.int x1), some (.int x2), some (.int x3), none, none]) ⟨rfl, ⟨rfl, ⟨rfl, ⟨rfl, trivial⟩⟩⟩⟩ (kb_m_structType_108 L0 hf)
  · replace hf := xi_neg hf qc29
    refine XS.go (s_iconst (v := 0) rfl rfl) ?_
    refine XS.go (s_goto (tgt := 108) rfl rfl) ?_
    exact XR.forget (L2 := [some (.ref 1262), some (.int x1), some (.int x2), some (.int x3), none, none]) ⟨rfl, ⟨rfl, ⟨rfl, ⟨rfl, trivial⟩⟩⟩⟩ (kb_m_structType_108 L0 hf)
def b_m_structType_66 (x1 : Int32) (x2 : Int32) (y0 : Int32) (h : XH) : Option (Unit × XH) := (if ¬ y0 = (-1) then (b_m_structType_93 x1 x2 y0 h) else (Option.bind (f_m_flaw 5 h) fun r31 => (some ((), r31.2))))
set_option maxRecDepth 20000 in
theorem kb_m_structType_66 {l : Launch} {G : XG} {d : Nat} {x1 : Int32} {x2 : Int32} {y0 : Int32} {h : XH} {r : Unit × XH} (L0 : LY h) (hf : b_m_structType_66 x1 x2 y0 h = some r) : XR l G xEX12_structType (d + 2) (66, [some (.ref 1262), some (.int x1), some (.int x2), none, none, none], [(.int y0)], h) (fun C => ∃ v, xRet xEX12_structType C v ∧ (C.2.2.2 = r.2 ∧ v = none) ∧ LY r.2) := by
  unfold b_m_structType_66 at hf
  refine XS.go (XS.lcl (L3 := [some (.ref 1262), some (.int x1), some (.int x2), some (.int y0), none, none]) (s_istoren rfl rfl (Nat.le_of_ble_eq_true rfl)) rfl) ?_
  refine XS.go (s_iloadn rfl rfl rfl) ?_
  refine XS.go (s_iconst (v := (-1)) rfl rfl) ?_
  refine r_icmp_ne (tgt := 78) rfl rfl (fun qc30 => ?_) (fun qc30 => ?_)
  · replace hf := xi_pos hf qc30
    refine XS.go (s_goto (tgt := 93) rfl rfl) ?_
    exact XR.forget (L2 := [some (.ref 1262), some (.int x1), some (.int x2), some (.int y0), none, none]) ⟨rfl, ⟨rfl, ⟨rfl, ⟨rfl, trivial⟩⟩⟩⟩ (kb_m_structType_93 L0 hf)
  · replace hf := xi_neg hf qc30
    refine XS.go (s_aloadn rfl rfl rfl) ?_
    refine XS.go (s_iconst (v := 5) rfl rfl) ?_
    replace hf := xb_some hf
    obtain ⟨r31, e32, hf⟩ := hf
    refine r_callv rfl xvX12_flaw xm12_230 (kf_m_flaw (d := d) L0 e32) (LY.lt L0 (by decide)) (LY.k1262 L0) (by decide) rfl rfl (dl0 (by decide)) (by decide) (Nat.le_of_ble_eq_true rfl) ?_
    rintro _ _ ⟨⟨rfl, rfl⟩, L33⟩
    cases hf
    exact XR.retv rfl rfl (fun hret => ⟨_, hret, ⟨rfl, rfl⟩, L33⟩)
def b_m_structType_65 (x1 : Int32) (x2 : Int32) (h : XH) : Option (Unit × XH) := (b_m_structType_66 x1 x2 (-1) h)
set_option maxRecDepth 20000 in
theorem kb_m_structType_65 {l : Launch} {G : XG} {d : Nat} {x1 : Int32} {x2 : Int32} {h : XH} {r : Unit × XH} (L0 : LY h) (hf : b_m_structType_65 x1 x2 h = some r) : XR l G xEX12_structType (d + 2) (65, [some (.ref 1262), some (.int x1), some (.int x2), none, none, none], [], h) (fun C => ∃ v, xRet xEX12_structType C v ∧ (C.2.2.2 = r.2 ∧ v = none) ∧ LY r.2) := by
  unfold b_m_structType_65 at hf
  refine XS.go (s_iconst (v := (-1)) rfl rfl) ?_
  exact XR.forget (L2 := [some (.ref 1262), some (.int x1), some (.int x2), none, none, none]) ⟨rfl, ⟨rfl, ⟨rfl, trivial⟩⟩⟩ (kb_m_structType_66 L0 hf)
def f_m_structType (a0 : Int32) (a1 : Int32) (h : XH) : Option (Unit × XH) := (if (hi h 1262 14) = 0 then (Option.bind (f_m_isName h) fun r35 => (if r35.1 = 0 then (Option.bind (f_m_isScalar r35.2) fun r39 => (if ¬ r39.1 = 0 then (b_m_structType_93 a0 a1 (-1) r39.2) else (Option.bind (f_m_misfit r39.2) fun r43 => (some ((), r43.2))))) else (Option.bind (f_m_definition (hi r35.2 1262 13) r35.2) fun r46 => (if r46.1 = (-1) then (b_m_structType_65 a0 a1 r46.2) else (if 0 ≤ r46.1 ∧ r46.1 < nI 40 then (if ¬ (hi r46.2 1271 (Int32.toNatClampNeg r46.1)) = 2 then (b_m_structType_65 a0 a1 r46.2) else (if a0 ≤ (hi r46.2 1272 (Int32.toNatClampNeg r46.1)) then (b_m_structType_65 a0 a1 r46.2) else (b_m_structType_66 a0 a1 (hi r46.2 1272 (Int32.toNatClampNeg r46.1)) r46.2))) else none))))) else (some ((), h)))
set_option maxRecDepth 20000 in
theorem kf_m_structType {l : Launch} {G : XG} {d : Nat} {a0 : Int32} {a1 : Int32} {h : XH} {r : Unit × XH} (L0 : LY h) (hf : f_m_structType a0 a1 h = some r) : XC l G xEX12_structType (d + 2) [.ref 1262, .int a0, .int a1] h (fun v h2 => (h2 = r.2 ∧ v = none) ∧ LY r.2) := by
  refine XC.virt xvX12_structType (Nat.le_of_ble_eq_true rfl) ?_
  unfold f_m_structType at hf
  refine XR.norm (L3 := [some (.ref 1262), some (.int a0), some (.int a1), none, none, none]) rfl ?_
  refine XS.go (s_aloadn rfl rfl rfl) ?_
  refine XS.go (s_getie rfl xf12_221 (LY.lt L0 (by decide)) (LY.k1262 L0) (by decide) rfl rfl) ?_
  refine r_if_eq (tgt := 8) rfl rfl (fun qc34 => ?_) (fun qc34 => ?_)
  · replace hf := xi_pos hf qc34
    refine XS.go (s_iconst (v := (-1)) rfl rfl) ?_
    refine XS.go (XS.lcl (L3 := [some (.ref 1262), some (.int a0), some (.int a1), some (.int (-1)), none, none]) (s_istoren rfl rfl (Nat.le_of_ble_eq_true rfl)) rfl) ?_
    refine XS.go (s_aloadn rfl rfl rfl) ?_
    replace hf := xb_some hf
    obtain ⟨r35, e36, hf⟩ := hf
    refine r_callv rfl xvX12_isName xm12_243 (kf_m_isName (d := d) L0 e36) (LY.lt L0 (by decide)) (LY.k1262 L0) (by decide) rfl rfl (dl0 (by decide)) (by decide) (Nat.le_of_ble_eq_true rfl) ?_
    rintro _ _ ⟨⟨rfl, rfl⟩, L37⟩
    refine r_if_eq (tgt := 81) rfl rfl (fun qc38 => ?_) (fun qc38 => ?_)
    · replace hf := xi_pos hf qc38
      refine XS.go (s_aloadn rfl rfl rfl) ?_
      replace hf := xb_some hf
      obtain ⟨r39, e40, hf⟩ := hf
      refine r_callv rfl xvX12_isScalar xm12_312 (kf_m_isScalar (d := d) L37 e40) (LY.lt L37 (by decide)) (LY.k1262 L37) (by decide) rfl rfl (dl0 (by decide)) (by decide) (Nat.le_of_ble_eq_true rfl) ?_
      rintro _ _ ⟨⟨rfl, rfl⟩, L41⟩
      refine r_if_ne (tgt := 93) rfl rfl (fun qc42 => ?_) (fun qc42 => ?_)
      · replace hf := xi_pos hf qc42
        exact XR.forget (L2 := [some (.ref 1262), some (.int a0), some (.int a1), some (.int (-1)), none, none]) ⟨rfl, ⟨rfl, ⟨rfl, ⟨rfl, trivial⟩⟩⟩⟩ (kb_m_structType_93 L41 hf)
      · replace hf := xi_neg hf qc42
        refine XS.go (s_aloadn rfl rfl rfl) ?_
        replace hf := xb_some hf
        obtain ⟨r43, e44, hf⟩ := hf
        refine r_callv rfl xvX12_misfit xm12_237 (kf_m_misfit (d := d) L41 e44) (LY.lt L41 (by decide)) (LY.k1262 L41) (by decide) rfl rfl (dl (by decide)) (by decide) (Nat.le_of_ble_eq_true rfl) ?_
        rintro _ _ ⟨⟨rfl, rfl⟩, L45⟩
        cases hf
        exact XR.retv rfl rfl (fun hret => ⟨_, hret, ⟨rfl, rfl⟩, L45⟩)
    · replace hf := xi_neg hf qc38
      refine XS.go (s_aloadn rfl rfl rfl) ?_
      refine XS.go (s_aloadn rfl rfl rfl) ?_
      refine XS.go (s_getie rfl xf12_224 (LY.lt L37 (by decide)) (LY.k1262 L37) (by decide) rfl rfl) ?_
      replace hf := xb_some hf
      obtain ⟨r46, e47, hf⟩ := hf
      refine r_callv rfl xvX12_definition xm12_289 (kf_m_definition (d := d) L37 e47) (LY.lt L37 (by decide)) (LY.k1262 L37) (by decide) rfl rfl (dl (by decide)) (by decide) (Nat.le_of_ble_eq_true rfl) ?_
      rintro _ _ ⟨⟨rfl, rfl⟩, L48⟩
      refine XS.go (XS.lcl (L3 := [some (.ref 1262), some (.int a0), some (.int a1), some (.int (-1)), some (.int r46.1), none]) (s_istore rfl (Nat.le_of_ble_eq_true rfl)) rfl) ?_
      refine XS.go (s_iload rfl rfl) ?_
      refine XS.go (s_iconst (v := (-1)) rfl rfl) ?_
      refine r_icmp_eq (tgt := 65) rfl rfl (fun qc49 => ?_) (fun qc49 => ?_)
      · replace hf := xi_pos hf qc49
        exact XR.forget (L2 := [some (.ref 1262), some (.int a0), some (.int a1), none, none, none]) ⟨rfl, ⟨rfl, ⟨rfl, trivial⟩⟩⟩ (kb_m_structType_65 L48 hf)
      · replace hf := xi_neg hf qc49
        refine XS.go (s_aloadn rfl rfl rfl) ?_
        refine XS.go (s_getr rfl xf12_34 (LY.lt L48 (by decide)) (LY.k1262 L48) (by decide) rfl (LY.r1262_18 L48)) ?_
        refine XS.go (s_iload rfl rfl) ?_
        replace hf := xi_none hf
        obtain ⟨qk50, hf⟩ := hf
        refine XS.go (s_ialde rfl (LY.lt L48 (by decide)) (LY.k1271 L48) (inLit (LY.n1271 L48) qk50.1 qk50.2 (by decide)) rfl) ?_
        refine XS.go (s_iconst (v := 2) rfl rfl) ?_
        refine r_icmp_ne (tgt := 65) rfl rfl (fun qc51 => ?_) (fun qc51 => ?_)
        · replace hf := xi_pos hf qc51
          exact XR.forget (L2 := [some (.ref 1262), some (.int a0), some (.int a1), none, none, none]) ⟨rfl, ⟨rfl, ⟨rfl, trivial⟩⟩⟩ (kb_m_structType_65 L48 hf)
        · replace hf := xi_neg hf qc51
          refine XS.go (s_aloadn rfl rfl rfl) ?_
          refine XS.go (s_getr rfl xf12_37 (LY.lt L48 (by decide)) (LY.k1262 L48) (by decide) rfl (LY.r1262_19 L48)) ?_
          refine XS.go (s_iload rfl rfl) ?_
          refine XS.go (s_ialde rfl (LY.lt L48 (by decide)) (LY.k1272 L48) (inLit (LY.n1272 L48) qk50.1 qk50.2 (by decide)) rfl) ?_
          refine XS.go (s_iloadn rfl rfl rfl) ?_
          refine r_icmp_ge (tgt := 65) rfl rfl (fun qc52 => ?_) (fun qc52 => ?_)
          · replace hf := xi_pos hf qc52
            exact XR.forget (L2 := [some (.ref 1262), some (.int a0), some (.int a1), none, none, none]) ⟨rfl, ⟨rfl, ⟨rfl, trivial⟩⟩⟩ (kb_m_structType_65 L48 hf)
          · replace hf := xi_neg hf qc52
            refine XS.go (s_aloadn rfl rfl rfl) ?_
            refine XS.go (s_getr rfl xf12_37 (LY.lt L48 (by decide)) (LY.k1262 L48) (by decide) rfl (LY.r1262_19 L48)) ?_
            refine XS.go (s_iload rfl rfl) ?_
            refine XS.go (s_ialde rfl (LY.lt L48 (by decide)) (LY.k1272 L48) (inLit (LY.n1272 L48) qk50.1 qk50.2 (by decide)) rfl) ?_
            refine XS.go (s_goto (tgt := 66) rfl rfl) ?_
            exact XR.forget (L2 := [some (.ref 1262), some (.int a0), some (.int a1), none, none, none]) ⟨rfl, ⟨rfl, ⟨rfl, trivial⟩⟩⟩ (kb_m_structType_66 L48 hf)
  · replace hf := xi_neg hf qc34
    cases hf
    exact XR.retv rfl rfl (fun hret => ⟨_, hret, ⟨rfl, rfl⟩, L0⟩)
