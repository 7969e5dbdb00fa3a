/-! Methods as functions of the heap -/
def b_r_isPartReadable_24 (h : XH) : Option (Int32 × XH) := (some (1, h))
set_option maxRecDepth 20000 in
theorem kb_r_isPartReadable_24 {l : Launch} {G : XG} {d : Nat} {h : XH} {r : Int32 × XH} (L0 : LY h) (hf : b_r_isPartReadable_24 h = some r) : XR l G xEX8_isPartReadable d (24, [none], [], h) (fun C => ∃ v, xRet xEX8_isPartReadable C v ∧ (C.2.2.2 = r.2 ∧ v = some (.int r.1)) ∧ LY r.2) := by
  unfold b_r_isPartReadable_24 at hf
  refine XS.go (s_iconst (v := 1) rfl rfl) ?_
  refine XS.go (s_goto (tgt := 29) rfl rfl) ?_
  cases hf
  exact XR.retz rfl rfl (by decide) (fun hret => ⟨_, hret, ⟨rfl, rfl⟩, L0⟩)
def f_r_isPartReadable (h : XH) : Option (Int32 × XH) := (if (hi h 1255 6) = 0 then (b_r_isPartReadable_24 h) else (if (hi h 1255 6) = 6 then (b_r_isPartReadable_24 h) else (if ¬ (hi h 1255 6) = 4 then (some (0, h)) else (b_r_isPartReadable_24 h))))
set_option maxRecDepth 20000 in
theorem kf_r_isPartReadable {l : Launch} {G : XG} {d : Nat} {h : XH} {r : Int32 × XH} (L0 : LY h) (hf : f_r_isPartReadable h = some r) : XC l G xEX8_isPartReadable d [.ref 1255] h (fun v h2 => (h2 = r.2 ∧ v = some (.int r.1)) ∧ LY r.2) := by
  refine XC.virt xvX8_isPartReadable (Nat.le_of_ble_eq_true rfl) ?_
  unfold f_r_isPartReadable at hf
  refine XR.norm (L3 := [some (.ref 1255)]) rfl ?_
  refine XS.go (s_aloadn rfl rfl rfl) ?_
  refine XS.go (s_getie rfl xf8_35 (LY.lt L0 (by decide)) (LY.k1255 L0) (by decide) rfl rfl) ?_
  refine r_if_eq (tgt := 24) rfl rfl (fun qc1 => ?_) (fun qc1 => ?_)
  · replace hf := xi_pos hf qc1
    exact XR.forget (L2 := [none]) trivial (kb_r_isPartReadable_24 L0 hf)
  · replace hf := xi_neg hf qc1
    refine XS.go (s_aloadn rfl rfl rfl) ?_
    refine XS.go (s_getie rfl xf8_35 (LY.lt L0 (by decide)) (LY.k1255 L0) (by decide) rfl rfl) ?_
    refine XS.go (s_bipush (v := 6) rfl rfl) ?_
    refine r_icmp_eq (tgt := 24) rfl rfl (fun qc2 => ?_) (fun qc2 => ?_)
    · replace hf := xi_pos hf qc2
      exact XR.forget (L2 := [none]) trivial (kb_r_isPartReadable_24 L0 hf)
    · replace hf := xi_neg hf qc2
      refine XS.go (s_aloadn rfl rfl rfl) ?_
      refine XS.go (s_getie rfl xf8_35 (LY.lt L0 (by decide)) (LY.k1255 L0) (by decide) rfl rfl) ?_
      refine XS.go (s_iconst (v := 4) rfl rfl) ?_
      refine r_icmp_ne (tgt := 28) rfl rfl (fun qc3 => ?_) (fun qc3 => ?_)
      · replace hf := xi_pos hf qc3
        refine XS.go (s_iconst (v := 0) rfl rfl) ?_
        cases hf
        exact XR.retz rfl rfl (by decide) (fun hret => ⟨_, hret, ⟨rfl, rfl⟩, L0⟩)
      · replace hf := xi_neg hf qc3
        exact XR.forget (L2 := [none]) trivial (kb_r_isPartReadable_24 L0 hf)
def f_r_partValue (h : XH) : Option (Int64 × XH) := (if ¬ (hi h 1255 6) = 4 then (if ¬ (hi h 1255 8) = (-1) then (if ¬ (hi h 1255 6) = 0 then (Option.bind (f_b_octet 1256 (hi h 1255 8) h) fun r4 => (some ((Int32.toInt64 r4.1), r4.2))) else (Option.bind (f_b_scalar 1256 (hi h 1255 8) (hi h 1255 7) h) fun r7 => (some (r7.1, r7.2)))) else (some ((hj h 1255 10), h))) else (some ((Int32.toInt64 (hi h 1255 11)), h)))
set_option maxRecDepth 20000 in
theorem kf_r_partValue {l : Launch} {G : XG} {d : Nat} {h : XH} {r : Int64 × XH} (L0 : LY h) (hf : f_r_partValue h = some r) : XC l G xEX8_partValue (d + 3) [.ref 1255] h (fun v h2 => (h2 = r.2 ∧ v = some (.long r.1)) ∧ LY r.2) := by
  refine XC.virt xvX8_partValue (Nat.le_of_ble_eq_true rfl) ?_
  unfold f_r_partValue at hf
  refine XR.norm (L3 := [some (.ref 1255)]) rfl ?_
  refine XS.go (s_aloadn rfl rfl rfl) ?_
  refine XS.go (s_getie rfl xf8_35 (LY.lt L0 (by decide)) (LY.k1255 L0) (by decide) rfl rfl) ?_
  refine XS.go (s_iconst (v := 4) rfl rfl) ?_
  refine r_icmp_ne (tgt := 14) rfl rfl (fun qc1 => ?_) (fun qc1 => ?_)
  · replace hf := xi_pos hf qc1
    refine XS.go (s_aloadn rfl rfl rfl) ?_
    refine XS.go (s_getie rfl xf8_41 (LY.lt L0 (by decide)) (LY.k1255 L0) (by decide) rfl rfl) ?_
    refine XS.go (s_iconst (v := (-1)) rfl rfl) ?_
    refine r_icmp_ne (tgt := 27) rfl rfl (fun qc2 => ?_) (fun qc2 => ?_)
    · replace hf := xi_pos hf qc2
      refine XS.go (s_aloadn rfl rfl rfl) ?_
      refine XS.go (s_getie rfl xf8_35 (LY.lt L0 (by decide)) (LY.k1255 L0) (by decide) rfl rfl) ?_
      refine r_if_ne (tgt := 52) rfl rfl (fun qc3 => ?_) (fun qc3 => ?_)
      · replace hf := xi_pos hf qc3
        refine XS.go (s_aloadn rfl rfl rfl) ?_
        refine XS.go (s_getr rfl xf8_12 (LY.lt L0 (by decide)) (LY.k1255 L0) (by decide) rfl (LY.r1255_0 L0)) ?_
        refine XS.go (s_aloadn rfl rfl rfl) ?_
        refine XS.go (s_getie rfl xf8_41 (LY.lt L0 (by decide)) (LY.k1255 L0) (by decide) rfl rfl) ?_
        replace hf := xb_some hf
        obtain ⟨r4, e5, hf⟩ := hf
        refine r_callv rfl xvX1_octet xm8_155 (kf_b_octet (d := d) L0 e5) (LY.lt L0 (by decide)) (LY.k1256 L0) (by decide) rfl rfl (dl0 (by decide)) (by decide) (Nat.le_of_ble_eq_true rfl) ?_
        rintro _ _ ⟨⟨rfl, rfl⟩, L6⟩
        refine XS.go (s_i2l rfl) ?_
        cases hf
        exact XR.retl rfl rfl (fun hret => ⟨_, hret, ⟨rfl, rfl⟩, L6⟩)
      · replace hf := xi_neg hf qc3
        refine XS.go (s_aloadn rfl rfl rfl) ?_
        refine XS.go (s_getr rfl xf8_12 (LY.lt L0 (by decide)) (LY.k1255 L0) (by decide) rfl (LY.r1255_0 L0)) ?_
        refine XS.go (s_aloadn rfl rfl rfl) ?_
        refine XS.go (s_getie rfl xf8_41 (LY.lt L0 (by decide)) (LY.k1255 L0) (by decide) rfl rfl) ?_
        refine XS.go (s_aloadn rfl rfl rfl) ?_
        refine XS.go (s_getie rfl xf8_38 (LY.lt L0 (by decide)) (LY.k1255 L0) (by decide) rfl rfl) ?_
        replace hf := xb_some hf
        obtain ⟨r7, e8, hf⟩ := hf
        refine r_callv rfl xvX1_scalar xm8_158 (kf_b_scalar (d := d) L0 e8) (LY.lt L0 (by decide)) (LY.k1256 L0) (by decide) rfl rfl (dl (by decide)) (by decide) (Nat.le_of_ble_eq_true rfl) ?_
        rintro _ _ ⟨⟨rfl, rfl⟩, L9⟩
        refine XS.go (s_goto (tgt := 64) rfl rfl) ?_
        cases hf
        exact XR.retl rfl rfl (fun hret => ⟨_, hret, ⟨rfl, rfl⟩, L9⟩)
    · replace hf := xi_neg hf qc2
      refine XS.go (s_aloadn rfl rfl rfl) ?_
      refine XS.go (s_getje rfl xf8_47 (LY.lt L0 (by decide)) (LY.k1255 L0) (by decide) rfl rfl) ?_
      cases hf
      exact XR.retl rfl rfl (fun hret => ⟨_, hret, ⟨rfl, rfl⟩, L0⟩)
  · replace hf := xi_neg hf qc1
    refine XS.go (s_aloadn rfl rfl rfl) ?_
    refine XS.go (s_getie rfl xf8_51 (LY.lt L0 (by decide)) (LY.k1255 L0) (by decide) rfl rfl) ?_
    refine XS.go (s_i2l rfl) ?_
    cases hf
    exact XR.retl rfl rfl (fun hret => ⟨_, hret, ⟨rfl, rfl⟩, L0⟩)
def b_r_enterPart_40 (h : XH) : Option (Int32 × XH) := (Option.bind (f_b_behind 1256 (hi h 1255 8) h) fun r1 => (Option.bind (f_r_enter (hi h 1255 6) (hi h 1255 7) (hi h 1255 9) r1.1 r1.2) fun r4 => (some (r4.1, r4.2))))
set_option maxRecDepth 20000 in
theorem kb_r_enterPart_40 {l : Launch} {G : XG} {d : Nat} {h : XH} {r : Int32 × XH} (L0 : LY h) (hf : b_r_enterPart_40 h = some r) : XR l G xEX8_enterPart (d + 3) (40, [some (.ref 1255)], [], h) (fun C => ∃ v, xRet xEX8_enterPart C v ∧ (C.2.2.2 = r.2 ∧ v = some (.int r.1)) ∧ LY r.2) := by
  unfold b_r_enterPart_40 at hf
  refine XS.go (s_aloadn rfl rfl rfl) ?_
  refine XS.go (s_aloadn rfl rfl rfl) ?_
  refine XS.go (s_getie rfl xf8_35 (LY.lt L0 (by decide)) (LY.k1255 L0) (by decide) rfl rfl) ?_
  refine XS.go (s_aloadn rfl rfl rfl) ?_
  refine XS.go (s_getie rfl xf8_38 (LY.lt L0 (by decide)) (LY.k1255 L0) (by decide) rfl rfl) ?_
  refine XS.go (s_aloadn rfl rfl rfl) ?_
  refine XS.go (s_getie rfl xf8_44 (LY.lt L0 (by decide)) (LY.k1255 L0) (by decide) rfl rfl) ?_
  refine XS.go (s_aloadn rfl rfl rfl) ?_
  refine XS.go (s_getr rfl xf8_12 (LY.lt L0 (by decide)) (LY.k1255 L0) (by decide) rfl (LY.r1255_0 L0)) ?_
  refine XS.go (s_aloadn rfl rfl rfl) ?_
  refine XS.go (s_getie rfl xf8_41 (LY.lt L0 (by decide)) (LY.k1255 L0) (by decide) rfl rfl) ?_
  replace hf := xb_some hf
  obtain ⟨r1, e2, hf⟩ := hf
  refine r_callv rfl xvX1_behind xm8_65 (kf_b_behind (d := d) L0 e2) (LY.lt L0 (by decide)) (LY.k1256 L0) (by decide) rfl rfl (dl (by decide)) (by decide) (Nat.le_of_ble_eq_true rfl) ?_
  rintro _ _ ⟨⟨rfl, rfl⟩, L3⟩
  replace hf := xb_some hf
  obtain ⟨r4, e5, hf⟩ := hf
  refine r_callv rfl xvX8_enter xm8_69 (kf_r_enter (d := d) L3 e5) (LY.lt L3 (by decide)) (LY.k1255 L3) (by decide) rfl rfl (dl (by decide)) (by decide) (Nat.le_of_ble_eq_true rfl) ?_
  rintro _ _ ⟨⟨rfl, rfl⟩, L6⟩
  cases hf
  exact XR.reti rfl rfl (fun hret => ⟨_, hret, ⟨rfl, rfl⟩, L6⟩)
def f_r_enterPart (h : XH) : Option (Int32 × XH) := (if (hi h 1255 6) = 1 then (b_r_enterPart_40 h) else (if (hi h 1255 6) = 2 then (Option.bind (f_r_enter 2 (hi h 1255 7) (-1) (hi h 1255 8) h) fun r8 => (some (r8.1, r8.2))) else (if (hi h 1255 6) = 3 then (b_r_enterPart_40 h) else (if (hi h 1255 6) = 4 then (Option.bind (f_b_behind 1256 (hi h 1255 8) h) fun r11 => (Option.bind (f_r_enter 3 (hi h 1255 7) (-1) r11.1 r11.2) fun r14 => (some (r14.1, r14.2)))) else (if (hi h 1255 6) = 5 then (b_r_enterPart_40 h) else (some ((-1), h)))))))
set_option maxRecDepth 20000 in
theorem kf_r_enterPart {l : Launch} {G : XG} {d : Nat} {h : XH} {r : Int32 × XH} (L0 : LY h) (hf : f_r_enterPart h = some r) : XC l G xEX8_enterPart (d + 3) [.ref 1255] h (fun v h2 => (h2 = r.2 ∧ v = some (.int r.1)) ∧ LY r.2) := by
  refine XC.virt xvX8_enterPart (Nat.le_of_ble_eq_true rfl) ?_
  unfold f_r_enterPart at hf
  refine XR.norm (L3 := [some (.ref 1255)]) rfl ?_
  refine XS.go (s_aloadn rfl rfl rfl) ?_
  refine XS.go (s_getie rfl xf8_35 (LY.lt L0 (by decide)) (LY.k1255 L0) (by decide) rfl rfl) ?_
  by_cases qs7_0 : (hi h 1255 6) = 1
  · replace hf := xi_pos hf qs7_0
    refine XS.go (s_tswI (tgt := 40) rfl (by rw [qs7_0]; decide) (by rw [qs7_0]; decide) (by rw [qs7_0]; rfl) rfl) ?_
    exact XR.forget (L2 := [some (.ref 1255)]) ⟨rfl, trivial⟩ (kb_r_enterPart_40 L0 hf)
  replace hf := xi_neg hf qs7_0
  by_cases qs7_1 : (hi h 1255 6) = 2
  · replace hf := xi_pos hf qs7_1
    refine XS.go (s_tswI (tgt := 90) rfl (by rw [qs7_1]; decide) (by rw [qs7_1]; decide) (by rw [qs7_1]; rfl) rfl) ?_
    refine XS.go (s_aloadn rfl rfl rfl) ?_
    refine XS.go (s_iconst (v := 2) rfl rfl) ?_
    refine XS.go (s_aloadn rfl rfl rfl) ?_
    refine XS.go (s_getie rfl xf8_38 (LY.lt L0 (by decide)) (LY.k1255 L0) (by decide) rfl rfl) ?_
    refine XS.go (s_iconst (v := (-1)) rfl rfl) ?_
    refine XS.go (s_aloadn rfl rfl rfl) ?_
    refine XS.go (s_getie rfl xf8_41 (LY.lt L0 (by decide)) (LY.k1255 L0) (by decide) rfl rfl) ?_
    replace hf := xb_some hf
    obtain ⟨r8, e9, hf⟩ := hf
    refine r_callv rfl xvX8_enter xm8_69 (kf_r_enter (d := d) L0 e9) (LY.lt L0 (by decide)) (LY.k1255 L0) (by decide) rfl rfl (dl (by decide)) (by decide) (Nat.le_of_ble_eq_true rfl) ?_
    rintro _ _ ⟨⟨rfl, rfl⟩, L10⟩
    cases hf
    exact XR.reti rfl rfl (fun hret => ⟨_, hret, ⟨rfl, rfl⟩, L10⟩)
  replace hf := xi_neg hf qs7_1
  by_cases qs7_2 : (hi h 1255 6) = 3
  · replace hf := xi_pos hf qs7_2
    refine XS.go (s_tswI (tgt := 40) rfl (by rw [qs7_2]; decide) (by rw [qs7_2]; decide) (by rw [qs7_2]; rfl) rfl) ?_
    exact XR.forget (L2 := [some (.ref 1255)]) ⟨rfl, trivial⟩ (kb_r_enterPart_40 L0 hf)
  replace hf := xi_neg hf qs7_2
  by_cases qs7_3 : (hi h 1255 6) = 4
  · replace hf := xi_pos hf qs7_3
    refine XS.go (s_tswI (tgt := 68) rfl (by rw [qs7_3]; decide) (by rw [qs7_3]; decide) (by rw [qs7_3]; rfl) rfl) ?_
    refine XS.go (s_aloadn rfl rfl rfl) ?_
    refine XS.go (s_iconst (v := 3) rfl rfl) ?_
    refine XS.go (s_aloadn rfl rfl rfl) ?_
    refine XS.go (s_getie rfl xf8_38 (LY.lt L0 (by decide)) (LY.k1255 L0) (by decide) rfl rfl) ?_
    refine XS.go (s_iconst (v := (-1)) rfl rfl) ?_
    refine XS.go (s_aloadn rfl rfl rfl) ?_
    refine XS.go (s_getr rfl xf8_12 (LY.lt L0 (by decide)) (LY.k1255 L0) (by decide) rfl (LY.r1255_0 L0)) ?_
    refine XS.go (s_aloadn rfl rfl rfl) ?_
    refine XS.go (s_getie rfl xf8_41 (LY.lt L0 (by decide)) (LY.k1255 L0) (by decide) rfl rfl) ?_
    replace hf := xb_some hf
    obtain ⟨r11, e12, hf⟩ := hf
    refine r_callv rfl xvX1_behind xm8_65 (kf_b_behind (d := d) L0 e12) (LY.lt L0 (by decide)) (LY.k1256 L0) (by decide) rfl rfl (dl (by decide)) (by decide) (Nat.le_of_ble_eq_true rfl) ?_
    rintro _ _ ⟨⟨rfl, rfl⟩, L13⟩
    replace hf := xb_some hf
    obtain ⟨r14, e15, hf⟩ := hf
    refine r_callv rfl xvX8_enter xm8_69 (kf_r_enter (d := d) L13 e15) (LY.lt L13 (by decide)) (LY.k1255 L13) (by decide) rfl rfl (dl (by decide)) (by decide) (Nat.le_of_ble_eq_true rfl) ?_
    rintro _ _ ⟨⟨rfl, rfl⟩, L16⟩
    cases hf
    exact XR.reti rfl rfl (fun hret => ⟨_, hret, ⟨rfl, rfl⟩, L16⟩)
  replace hf := xi_neg hf qs7_3
  by_cases qs7_4 : (hi h 1255 6) = 5
  · replace hf := xi_pos hf qs7_4
    refine XS.go (s_tswI (tgt := 40) rfl (by rw [qs7_4]; decide) (by rw [qs7_4]; decide) (by rw [qs7_4]; rfl) rfl) ?_
    exact XR.forget (L2 := [some (.ref 1255)]) ⟨rfl, trivial⟩ (kb_r_enterPart_40 L0 hf)
  replace hf := xi_neg hf qs7_4
  have qs7_o : ((hi h 1255 6)).toInt < 1 ∨ 5 < ((hi h 1255 6)).toInt := by
    refine tsw_out 1 5 (by decide) ?_
    intro k h1 h2
    have z : k = 1 ∨ k = 2 ∨ k = 3 ∨ k = 4 ∨ k = 5 := by omega
    rcases z with rfl | rfl | rfl | rfl | rfl
    · exact qs7_0
    · exact qs7_1
    · exact qs7_2
    · exact qs7_3
    · exact qs7_4
  refine XS.go (s_tswO (tgt := 105) rfl qs7_o rfl) ?_
  refine XS.go (s_iconst (v := (-1)) rfl rfl) ?_
  cases hf
  exact XR.reti rfl rfl (fun hret => ⟨_, hret, ⟨rfl, rfl⟩, L0⟩)
def f_w_add (t : Nat) (a0 : Int64) (h : XH) : Option (Int32 × XH) := (if t < hz h ∧ hk h t = 10 then (if (hi h t 1) < 0 then (some ((-1), h)) else (Option.bind (hr h t 0) fun b3 => (if b3 < hz h ∧ hk h b3 = 101 then (if (hi h t 1) < (nI (hn h b3)) then (if 0 ≤ (hi h t 1) ∧ (hi h t 1) < nI (hn h b3) ∧ (hn h b3) < 2 ^ 31 then (some (((hi h t 1) + 1), (hsi (hsj h b3 (Int32.toNatClampNeg (hi h t 1)) a0) t 1 ((hi h t 1) + 1)))) else none) else (some ((-1), h))) else none))) else none)
set_option maxRecDepth 20000 in
theorem kf_w_add {l : Launch} {G : XG} {d : Nat} {t : Nat} {a0 : Int64} {h : XH} {r : Int32 × XH} (L0 : LY h) (hf : f_w_add t a0 h = some r) : XC l G xEX10_add d [.ref t, .long a0] h (fun v h2 => (h2 = r.2 ∧ v = some (.int r.1)) ∧ LY r.2) := by
  refine XC.virt xvX10_add (Nat.le_of_ble_eq_true rfl) ?_
  unfold f_w_add at hf
  refine XR.norm (L3 := [some (.ref t), some (.long a0), none]) rfl ?_
  refine XS.go (s_aloadn rfl rfl rfl) ?_
  replace hf := xi_none hf
  obtain ⟨qk1, hf⟩ := hf
  refine XS.go (s_getie rfl xf10_15 qk1.1 qk1.2 (by decide) rfl rfl) ?_
  refine r_if_lt (tgt := 19) rfl rfl (fun qc2 => ?_) (fun qc2 => ?_)
  · replace hf := xi_pos hf qc2
    refine XS.go (s_iconst (v := (-1)) rfl rfl) ?_
    cases hf
    exact XR.reti rfl rfl (fun hret => ⟨_, hret, ⟨rfl, rfl⟩, L0⟩)
  · replace hf := xi_neg hf qc2
    refine XS.go (s_aloadn rfl rfl rfl) ?_
    refine XS.go (s_getie rfl xf10_15 qk1.1 qk1.2 (by decide) rfl rfl) ?_
    refine XS.go (s_aloadn rfl rfl rfl) ?_
    replace hf := xb_some hf
    obtain ⟨b3, qr4, hf⟩ := hf
    refine XS.go (s_getr rfl xf10_9 qk1.1 qk1.2 (by decide) rfl qr4) ?_
    replace hf := xi_none hf
    obtain ⟨qk5, hf⟩ := hf
    refine XS.go (s_alene (N := hn h b3) rfl qk5.1 qk5.2 rfl (by decide)) ?_
    refine r_icmp_lt (tgt := 21) rfl rfl (fun qc6 => ?_) (fun qc6 => ?_)
    · replace hf := xi_pos hf qc6
      refine XS.go (s_aloadn rfl rfl rfl) ?_
      refine XS.go (s_getr rfl xf10_9 qk1.1 qk1.2 (by decide) rfl qr4) ?_
      refine XS.go (s_aloadn rfl rfl rfl) ?_
      refine XS.go (s_getie rfl xf10_15 qk1.1 qk1.2 (by decide) rfl rfl) ?_
      refine XS.go (s_lloadn rfl rfl rfl) ?_
      replace hf := xi_none hf
      obtain ⟨qk7, hf⟩ := hf
      refine XS.go (s_last rfl qk5.1 qk5.2 (inLit (N := hn h b3) rfl qk7.1 qk7.2.1 qk7.2.2)) ?_
      refine XS.go (s_aloadn rfl rfl rfl) ?_
      refine XS.go (s_dup rfl rfl) ?_
      refine XS.go (s_getie rfl xf10_15 (show t < hz _ by simp only [hz_hsi, hk_hsi, hz_hsj, hk_hsj]; exact qk1.1) (by simp only [hz_hsi, hk_hsi, hz_hsj, hk_hsj]; exact qk1.2) (by decide) rfl (congrFun hi_hsj _)) ?_
      refine XS.go (s_iconst (v := 1) rfl rfl) ?_
      refine XS.go (s_iadd rfl) ?_
      refine XS.go (s_puti rfl xf10_15 (show t < hz _ by simp only [hz_hsi, hk_hsi, hz_hsj, hk_hsj]; exact qk1.1) (by simp only [hz_hsi, hk_hsi, hz_hsj, hk_hsj]; exact qk1.2) (by decide) rfl (Or.inl rfl)) ?_
      refine XS.go (s_aloadn rfl rfl rfl) ?_
      refine XS.go (s_getie rfl xf10_15 (show t < hz _ by simp only [hz_hsi, hk_hsi, hz_hsj, hk_hsj]; exact qk1.1) (by simp only [hz_hsi, hk_hsi, hz_hsj, hk_hsj]; exact qk1.2) (by decide) rfl hi_hsi_eq) ?_
      cases hf
      exact XR.reti rfl rfl (fun hret => ⟨_, hret, ⟨rfl, rfl⟩, (by simp only [LY_si, LY_sj]; exact L0)⟩)
    · replace hf := xi_neg hf qc6
      refine XS.go (s_iconst (v := (-1)) rfl rfl) ?_
      cases hf
      exact XR.reti rfl rfl (fun hret => ⟨_, hret, ⟨rfl, rfl⟩, L0⟩)
def f_w_takeAll (t : Nat) (h : XH) : Option (Int32 × XH) := (if t < hz h ∧ hk h t = 10 then (some ((hi h t 1), (hsi h t 1 0))) else none)
set_option maxRecDepth 20000 in
theorem kf_w_takeAll {l : Launch} {G : XG} {d : Nat} {t : Nat} {h : XH} {r : Int32 × XH} (L0 : LY h) (hf : f_w_takeAll t h = some r) : XC l G xEX10_takeAll d [.ref t] h (fun v h2 => (h2 = r.2 ∧ v = some (.int r.1)) ∧ LY r.2) := by
  refine XC.virt xvX10_takeAll (Nat.le_of_ble_eq_true rfl) ?_
  unfold f_w_takeAll at hf
  refine XR.norm (L3 := [some (.ref t), none]) rfl ?_
  refine XS.go (s_aloadn rfl rfl rfl) ?_
  replace hf := xi_none hf
  obtain ⟨qk1, hf⟩ := hf
  refine XS.go (s_getie rfl xf10_15 qk1.1 qk1.2 (by decide) rfl rfl) ?_
  refine XS.go (XS.lcl (L3 := [some (.ref t), some (.int (hi h t 1))]) (s_istoren rfl rfl (Nat.le_of_ble_eq_true rfl)) rfl) ?_
  refine XS.go (s_aloadn rfl rfl rfl) ?_
  refine XS.go (s_iconst (v := 0) rfl rfl) ?_
  refine XS.go (s_puti rfl xf10_15 qk1.1 qk1.2 (by decide) rfl (Or.inl rfl)) ?_
  refine XS.go (s_iloadn rfl rfl rfl) ?_
  cases hf
  exact XR.reti rfl rfl (fun hret => ⟨_, hret, ⟨rfl, rfl⟩, (by simp only [LY_si, LY_sj]; exact L0)⟩)
def s_t_feedOne_3 (K3 : Int32 → Int32 → XH → Option (Unit × XH)) (x1 : Int32) (x2 : Int32) (h : XH) : Option (Unit × XH) := (if x2 < 0 then (some ((), h)) else (Option.bind (f_b_putOctet 1 (hi h 1 1) (((Int32.toUInt32 x1) >>> ((Int32.toUInt32 x2) &&& Int32.toUInt32 31)).toInt32) h) fun r2 => (K3 x1 (x2 + (-8)) (hsi r2.2 1 1 ((hi r2.2 1 1) + 1)))))
set_option maxRecDepth 20000 in
theorem ks_t_feedOne_3 {l : Launch} {G : XG} {d : Nat} {K3 : Int32 → Int32 → XH → Option (Unit × XH)} {x1 : Int32} {x2 : Int32} {h : XH} {r : Unit × XH} (hK3 : ∀ (x1 : Int32) (x2 : Int32) (h : XH), LY h → K3 x1 x2 h = some r → XR l G xEX11_feedOne (d + 1) (3, [some (.ref 0), some (.int x1), some (.int x2)], [], h) (fun C => ∃ v, xRet xEX11_feedOne C v ∧ (C.2.2.2 = r.2 ∧ v = none) ∧ LY r.2)) (L0 : LY h) (hf : s_t_feedOne_3 K3 x1 x2 h = some r) : XR l G xEX11_feedOne (d + 1) (3, [some (.ref 0), some (.int x1), some (.int x2)], [], h) (fun C => ∃ v, xRet xEX11_feedOne C v ∧ (C.2.2.2 = r.2 ∧ v = none) ∧ LY r.2) := by
  unfold s_t_feedOne_3 at hf
  refine XS.go (s_iloadn rfl rfl rfl) ?_
  refine r_if_lt (tgt := 43) rfl rfl (fun qc1 => ?_) (fun qc1 => ?_)
  · replace hf := xi_pos hf qc1
    cases hf
    exact XR.retv rfl rfl (fun hret => ⟨_, hret, ⟨rfl, rfl⟩, L0⟩)
  · replace hf := xi_neg hf qc1
    refine XS.go (s_aloadn rfl rfl rfl) ?_
    refine XS.go (s_getr rfl xf11_10 (LY.lt L0 (by decide)) (LY.k0 L0) (by decide) rfl (LY.r0_0 L0)) ?_
    refine XS.go (s_aloadn rfl rfl rfl) ?_
    refine XS.go (s_getr rfl xf11_10 (LY.lt L0 (by decide)) (LY.k0 L0) (by decide) rfl (LY.r0_0 L0)) ?_
    refine XS.go (s_getie rfl xf11_73 (LY.lt L0 (by decide)) (LY.k1 L0) (by decide) rfl rfl) ?_
    refine XS.go (s_iloadn rfl rfl rfl) ?_
    refine XS.go (s_iloadn rfl rfl rfl) ?_
    refine XS.go (s_iushr rfl) ?_
    replace hf := xb_some hf
    obtain ⟨r2, e3, hf⟩ := hf
    refine r_callv rfl xvX1_putOctet xm11_80 (kf_b_putOctet (d := d) L0 e3) (LY.lt L0 (by decide)) (LY.k1 L0) (by decide) rfl rfl (dl0 (by decide)) (by decide) (Nat.le_of_ble_eq_true rfl) ?_
    rintro _ _ ⟨⟨rfl, rfl⟩, L4⟩
    refine XS.go (s_aloadn rfl rfl rfl) ?_
    refine XS.go (s_getr rfl xf11_10 (LY.lt L4 (by decide)) (LY.k0 L4) (by decide) rfl (LY.r0_0 L4)) ?_
    refine XS.go (s_dup rfl rfl) ?_
    refine XS.go (s_getie rfl xf11_73 (LY.lt L4 (by decide)) (LY.k1 L4) (by decide) rfl rfl) ?_
    refine XS.go (s_iconst (v := 1) rfl rfl) ?_
    refine XS.go (s_iadd rfl) ?_
    refine XS.go (s_puti rfl xf11_73 (LY.lt L4 (by decide)) (LY.k1 L4) (by decide) rfl (Or.inl rfl)) ?_
    refine XS.go (XS.lcl (L3 := [some (.ref 0), some (.int x1), some (.int (x2 + (-8)))]) (s_iinc (v := x2 + (-8)) rfl rfl rfl (Nat.le_of_ble_eq_true rfl)) rfl) ?_
    refine XS.go (s_goto (tgt := 3) rfl rfl) ?_
    exact XR.forget (L2 := [some (.ref 0), some (.int x1), some (.int (x2 + (-8)))]) ⟨rfl, ⟨rfl, ⟨rfl, trivial⟩⟩⟩ (hK3 x1 (x2 + (-8)) _ (by simp only [LY_si, LY_sj]; exact L4) hf)
def b_t_feedOne_3 : Nat → Int32 → Int32 → XH → Option (Unit × XH)
  | 0, _, _, _ => none
  | n + 1, x1, x2, h => s_t_feedOne_3 (b_t_feedOne_3 n) x1 x2 h
theorem kb_t_feedOne_3 {l : Launch} {G : XG} {d : Nat} {n : Nat} {x1 : Int32} {x2 : Int32} {h : XH} {r : Unit × XH} (L0 : LY h) (hf : b_t_feedOne_3 n x1 x2 h = some r) : XR l G xEX11_feedOne (d + 1) (3, [some (.ref 0), some (.int x1), some (.int x2)], [], h) (fun C => ∃ v, xRet xEX11_feedOne C v ∧ (C.2.2.2 = r.2 ∧ v = none) ∧ LY r.2) := by
  induction n generalizing x1 x2 h with
  | zero => cases hf
  | succ n ih => exact ks_t_feedOne_3 (fun x1 x2 h L0 hf => ih (h := h) (x1 := x1) (x2 := x2) L0 hf) L0 hf
def f_t_feedOne (a0 : Int32) (h : XH) : Option (Unit × XH) := (b_t_feedOne_3 100000 a0 24 h)
set_option maxRecDepth 20000 in
theorem kf_t_feedOne {l : Launch} {G : XG} {d : Nat} {a0 : Int32} {h : XH} {r : Unit × XH} (L0 : LY h) (hf : f_t_feedOne a0 h = some r) : XC l G xEX11_feedOne (d + 1) [.ref 0, .int a0] h (fun v h2 => (h2 = r.2 ∧ v = none) ∧ LY r.2) := by
  refine XC.virt xvX11_feedOne (Nat.le_of_ble_eq_true rfl) ?_
  unfold f_t_feedOne at hf
  refine XR.norm (L3 := [some (.ref 0), some (.int a0), none]) rfl ?_
  refine XS.go (s_bipush (v := 24) rfl rfl) ?_
  refine XS.go (XS.lcl (L3 := [some (.ref 0), some (.int a0), some (.int 24)]) (s_istoren rfl rfl (Nat.le_of_ble_eq_true rfl)) rfl) ?_
  exact XR.forget (L2 := [some (.ref 0), some (.int a0), some (.int 24)]) ⟨rfl, ⟨rfl, ⟨rfl, trivial⟩⟩⟩ (kb_t_feedOne_3 L0 hf)
def f_t_feed (a0 : Int32) (a1 : Int32) (a2 : Int32) (a3 : Int32) (a4 : Int32) (h : XH) : Option (Int32 × XH) := (if ((hi h 1 1) + 20) ≤ 4000 then (Option.bind (f_t_feedOne a0 h) fun r2 => (Option.bind (f_t_feedOne a1 r2.2) fun r5 => (Option.bind (f_t_feedOne a2 r5.2) fun r8 => (Option.bind (f_t_feedOne a3 r8.2) fun r11 => (Option.bind (f_t_feedOne a4 r11.2) fun r14 => (some ((hi r14.2 1 1), r14.2))))))) else (some ((-1), h)))
set_option maxRecDepth 20000 in
theorem kf_t_feed {l : Launch} {G : XG} {d : Nat} {a0 : Int32} {a1 : Int32} {a2 : Int32} {a3 : Int32} {a4 : Int32} {h : XH} {r : Int32 × XH} (L0 : LY h) (hf : f_t_feed a0 a1 a2 a3 a4 h = some r) : XC l G xEX11_feed (d + 2) [.ref 0, .int a0, .int a1, .int a2, .int a3, .int a4] h (fun v h2 => (h2 = r.2 ∧ v = some (.int r.1)) ∧ LY r.2) := by
  refine XC.virt xvX11_feed (Nat.le_of_ble_eq_true rfl) ?_
  unfold f_t_feed at hf
  refine XR.norm (L3 := [some (.ref 0), some (.int a0), some (.int a1), some (.int a2), some (.int a3), some (.int a4)]) rfl ?_
  refine XS.go (s_aloadn rfl rfl rfl) ?_
  refine XS.go (s_getr rfl xf11_10 (LY.lt L0 (by decide)) (LY.k0 L0) (by decide) rfl (LY.r0_0 L0)) ?_
  refine XS.go (s_getie rfl xf11_73 (LY.lt L0 (by decide)) (LY.k1 L0) (by decide) rfl rfl) ?_
  refine XS.go (s_bipush (v := 20) rfl rfl) ?_
  refine XS.go (s_iadd rfl) ?_
  refine XS.go (s_sipush (v := 4000) rfl rfl) ?_
  refine r_icmp_le (tgt := 18) rfl rfl (fun qc1 => ?_) (fun qc1 => ?_)
  · replace hf := xi_pos hf qc1
    refine XS.go (s_aloadn rfl rfl rfl) ?_
    refine XS.go (s_iloadn rfl rfl rfl) ?_
    replace hf := xb_some hf
    obtain ⟨r2, e3, hf⟩ := hf
    refine r_callv rfl xvX11_feedOne xm11_76 (kf_t_feedOne (d := d) L0 e3) (LY.lt L0 (by decide)) (LY.k0 L0) (by decide) rfl rfl (dl (by decide)) (by decide) (Nat.le_of_ble_eq_true rfl) ?_
    rintro _ _ ⟨⟨rfl, rfl⟩, L4⟩
    refine XS.go (s_aloadn rfl rfl rfl) ?_
    refine XS.go (s_iloadn rfl rfl rfl) ?_
    replace hf := xb_some hf
    obtain ⟨r5, e6, hf⟩ := hf
    refine r_callv rfl xvX11_feedOne xm11_76 (kf_t_feedOne (d := d) L4 e6) (LY.lt L4 (by decide)) (LY.k0 L4) (by decide) rfl rfl (dl (by decide)) (by decide) (Nat.le_of_ble_eq_true rfl) ?_
    rintro _ _ ⟨⟨rfl, rfl⟩, L7⟩
    refine XS.go (s_aloadn rfl rfl rfl) ?_
    refine XS.go (s_iloadn rfl rfl rfl) ?_
    replace hf := xb_some hf
    obtain ⟨r8, e9, hf⟩ := hf
    refine r_callv rfl xvX11_feedOne xm11_76 (kf_t_feedOne (d := d) L7 e9) (LY.lt L7 (by decide)) (LY.k0 L7) (by decide) rfl rfl (dl (by decide)) (by decide) (Nat.le_of_ble_eq_true rfl) ?_
    rintro _ _ ⟨⟨rfl, rfl⟩, L10⟩
    refine XS.go (s_aloadn rfl rfl rfl) ?_
    refine XS.go (s_iload rfl rfl) ?_
    replace hf := xb_some hf
    obtain ⟨r11, e12, hf⟩ := hf
    refine r_callv rfl xvX11_feedOne xm11_76 (kf_t_feedOne (d := d) L10 e12) (LY.lt L10 (by decide)) (LY.k0 L10) (by decide) rfl rfl (dl (by decide)) (by decide) (Nat.le_of_ble_eq_true rfl) ?_
    rintro _ _ ⟨⟨rfl, rfl⟩, L13⟩
    refine XS.go (s_aloadn rfl rfl rfl) ?_
    refine XS.go (s_iload rfl rfl) ?_
    replace hf := xb_some hf
    obtain ⟨r14, e15, hf⟩ := hf
    refine r_callv rfl xvX11_feedOne xm11_76 (kf_t_feedOne (d := d) L13 e15) (LY.lt L13 (by decide)) (LY.k0 L13) (by decide) rfl rfl (dl (by decide)) (by decide) (Nat.le_of_ble_eq_true rfl) ?_
    rintro _ _ ⟨⟨rfl, rfl⟩, L16⟩
    refine XS.go (s_aloadn rfl rfl rfl) ?_
    refine XS.go (s_getr rfl xf11_10 (LY.lt L16 (by decide)) (LY.k0 L16) (by decide) rfl (LY.r0_0 L16)) ?_
    refine XS.go (s_getie rfl xf11_73 (LY.lt L16 (by decide)) (LY.k1 L16) (by decide) rfl rfl) ?_
    cases hf
    exact XR.reti rfl rfl (fun hret => ⟨_, hret, ⟨rfl, rfl⟩, L16⟩)
  · replace hf := xi_neg hf qc1
    refine XS.go (s_iconst (v := (-1)) rfl rfl) ?_
    cases hf
    exact XR.reti rfl rfl (fun hret => ⟨_, hret, ⟨rfl, rfl⟩, L0⟩)
def f_t_end (a0 : Int32) (h : XH) : Option (Int32 × XH) := (if a0 < 0 then (some (0, h)) else (if a0 ≤ (hi h 1 1) then (some (1, (hsi h 1 1 a0))) else (some (0, h))))
set_option maxRecDepth 20000 in
theorem kf_t_end {l : Launch} {G : XG} {d : Nat} {a0 : Int32} {h : XH} {r : Int32 × XH} (L0 : LY h) (hf : f_t_end a0 h = some r) : XC l G xEX11_end d [.ref 0, .int a0] h (fun v h2 => (h2 = r.2 ∧ v = some (.int r.1)) ∧ LY r.2) := by
  refine XC.virt xvX11_end (Nat.le_of_ble_eq_true rfl) ?_
  unfold f_t_end at hf
  refine XR.norm (L3 := [some (.ref 0), some (.int a0)]) rfl ?_
  refine XS.go (s_iloadn rfl rfl rfl) ?_
  refine r_if_lt (tgt := 15) rfl rfl (fun qc1 => ?_) (fun qc1 => ?_)
  · replace hf := xi_pos hf qc1
    refine XS.go (s_iconst (v := 0) rfl rfl) ?_
    cases hf
    exact XR.retz rfl rfl (by decide) (fun hret => ⟨_, hret, ⟨rfl, rfl⟩, L0⟩)
  · replace hf := xi_neg hf qc1
    refine XS.go (s_iloadn rfl rfl rfl) ?_
    refine XS.go (s_aloadn rfl rfl rfl) ?_
    refine XS.go (s_getr rfl xf11_10 (LY.lt L0 (by decide)) (LY.k0 L0) (by decide) rfl (LY.r0_0 L0)) ?_
    refine XS.go (s_getie rfl xf11_73 (LY.lt L0 (by decide)) (LY.k1 L0) (by decide) rfl rfl) ?_
    refine r_icmp_le (tgt := 17) rfl rfl (fun qc2 => ?_) (fun qc2 => ?_)
    · replace hf := xi_pos hf qc2
      refine XS.go (s_aloadn rfl rfl rfl) ?_
      refine XS.go (s_getr rfl xf11_10 (LY.lt L0 (by decide)) (LY.k0 L0) (by decide) rfl (LY.r0_0 L0)) ?_
      refine XS.go (s_iloadn rfl rfl rfl) ?_
      refine XS.go (s_puti rfl xf11_73 (LY.lt L0 (by decide)) (LY.k1 L0) (by decide) rfl (Or.inl rfl)) ?_
      refine XS.go (s_iconst (v := 1) rfl rfl) ?_
      cases hf
      exact XR.retz rfl rfl (by decide) (fun hret => ⟨_, hret, ⟨rfl, rfl⟩, (by simp only [LY_si, LY_sj]; exact L0)⟩)
    · replace hf := xi_neg hf qc2
      refine XS.go (s_iconst (v := 0) rfl rfl) ?_
      cases hf
      exact XR.retz rfl rfl (by decide) (fun hret => ⟨_, hret, ⟨rfl, rfl⟩, L0⟩)
def f_t_schema (h : XH) : Option (Sum Int32 Nat × XH) := (Option.bind (f_x_takeAll 1 h) fun r1 => (if hz (hsi r1.2 1 1 0) < 1000000 then (Option.bind (hr (hnew (hsi r1.2 1 1 0) 7 9) 0 5) fun b6 => (if (hz (hsi r1.2 1 1 0)) < hz (hnew (hsi r1.2 1 1 0) 7 9) ∧ hk (hnew (hsi r1.2 1 1 0) 7 9) (hz (hsi r1.2 1 1 0)) = 7 then (Option.bind (f_p_init (hz (hsi r1.2 1 1 0)) 7 b6 (hnew (hsi r1.2 1 1 0) 7 9)) fun r9 => (if (hz (hsi r1.2 1 1 0)) < hz r9.2 ∧ hk r9.2 (hz (hsi r1.2 1 1 0)) = 7 then (Option.bind (f_p_parse (hz (hsi r1.2 1 1 0)) r9.2) fun r13 => (if (hz (hsi r1.2 1 1 0)) < hz r13.2 ∧ hk r13.2 (hz (hsi r1.2 1 1 0)) = 7 then (if ¬ r13.1 = 0 then (Option.bind (hr r13.2 0 4) fun b18 => (Option.bind (hr r13.2 0 5) fun b20 => (Option.bind (f_u_empty (hsr (hsr (hsi (hsi r13.2 0 8 (hi r13.2 (hz (hsi r1.2 1 1 0)) 7)) 0 9 (hi (hsi r13.2 0 8 (hi r13.2 (hz (hsi r1.2 1 1 0)) 7)) (hz (hsi r1.2 1 1 0)) 8)) 0 4 (some b20)) 0 5 (some b18))) fun r24 => (Option.bind (f_r_drop r24.2) fun r27 => (Option.bind (hr r27.2 0 4) fun b30 => (if b30 < hz r27.2 ∧ hk r27.2 b30 = 9 then (Option.bind (hr r27.2 b30 1) fun b33 => (if b33 < hz r27.2 ∧ hk r27.2 b33 = 4 then (some (Sum.inl (hi r27.2 b33 1), r27.2)) else none)) else none)))))) else (if hz (hsi (hsi r13.2 0 8 (hi r13.2 (hz (hsi r1.2 1 1 0)) 7)) 0 9 (hi (hsi r13.2 0 8 (hi r13.2 (hz (hsi r1.2 1 1 0)) 7)) (hz (hsi r1.2 1 1 0)) 8)) < 1000000 then (some (Sum.inr 0, hthr (hsi (hsi r13.2 0 8 (hi r13.2 (hz (hsi r1.2 1 1 0)) 7)) 0 9 (hi (hsi r13.2 0 8 (hi r13.2 (hz (hsi r1.2 1 1 0)) 7)) (hz (hsi r1.2 1 1 0)) 8)))) else none)) else none)) else none)) else none)) else none))
set_option maxRecDepth 20000 in
theorem kf_t_schema {l : Launch} {G : XG} {d : Nat} {h : XH} {r : Sum Int32 Nat × XH} (hl : l.stackTraces = false) (L0 : LY h) (hf : f_t_schema h = some r) : (∃ x, r.1 = Sum.inl x ∧ XC l G xEX11_schema (d + 8) [.ref 0] h (fun v h2 => (h2 = r.2 ∧ v = some (.int x)) ∧ LY r.2)) ∨ ∃ k E, r.1 = Sum.inr k ∧ xXs[k]? = some E ∧ XCx l G xEX11_schema (d + 8) [.ref 0] h E (fun h2 => h2 = r.2 ∧ LY r.2) := by
  refine xe_of (R := Int32) (V := fun x => some (.int x)) hl xvX11_schema rfl (Nat.le_of_ble_eq_true rfl) (by omega) ?_
  unfold f_t_schema at hf
  refine XR.norm (L3 := [some (.ref 0), none, none, none]) rfl ?_
  refine XS.go (s_aloadn rfl rfl rfl) ?_
  refine XS.go (s_getr rfl xf11_29 (LY.lt L0 (by decide)) (LY.k0 L0) (by decide) rfl (LY.r0_3 L0)) ?_
  refine XS.go (s_aloadn rfl rfl rfl) ?_
  refine XS.go (s_getr rfl xf11_10 (LY.lt L0 (by decide)) (LY.k0 L0) (by decide) rfl (LY.r0_0 L0)) ?_
  replace hf := xb_some hf
  obtain ⟨r1, e2, hf⟩ := hf
  refine r_callv rfl xvX6_takeAll xm11_84 (kf_x_takeAll (d := d) L0 e2) (LY.lt L0 (by decide)) (LY.k7 L0) (by decide) rfl rfl (dl (by decide)) (by decide) (Nat.le_of_ble_eq_true rfl) ?_
  rintro _ _ ⟨⟨rfl, rfl⟩, L3⟩
  refine XS.go (s_aloadn rfl rfl rfl) ?_
  refine XS.go (s_getr rfl xf11_10 (LY.lt L3 (by decide)) (LY.k0 L3) (by decide) rfl (LY.r0_0 L3)) ?_
  refine XS.go (s_iconst (v := 0) rfl rfl) ?_
  refine XS.go (s_puti rfl xf11_73 (LY.lt L3 (by decide)) (LY.k1 L3) (by decide) rfl (Or.inl rfl)) ?_
  replace hf := xi_none hf
  obtain ⟨qk4, hf⟩ := hf
  have L5 : LY (hnew (hsi r1.2 1 1 0) 7 9) := LY.new (by simp only [LY_si, LY_sj]; exact L3) qk4
  refine XS.go (s_new (ci := 7) rfl (lg_4 236 rfl rfl) (by decide) rfl qk4) ?_
  refine XS.go (s_dup rfl rfl) ?_
  refine XS.go (s_aloadn rfl rfl rfl) ?_
  refine XS.go (s_getr rfl xf11_29 (LY.lt L5 (by decide)) (LY.k0 L5) (by decide) rfl (LY.r0_3 L5)) ?_
  refine XS.go (s_aloadn rfl rfl rfl) ?_
  replace hf := xb_some hf
  obtain ⟨b6, qr7, hf⟩ := hf
  refine XS.go (s_getr rfl xf11_40 (LY.lt L5 (by decide)) (LY.k0 L5) (by decide) rfl qr7) ?_
  replace hf := xi_none hf
  obtain ⟨qk8, hf⟩ := hf
  replace hf := xb_some hf
  obtain ⟨r9, e10, hf⟩ := hf
  refine r_calli rfl xnX7_init rfl xm11_90 (kf_p_init (d := d) L5 e10) rfl rfl (dl (by decide)) (by decide) (Nat.le_of_ble_eq_true rfl) ?_
  rintro _ _ ⟨⟨rfl, rfl⟩, L11⟩
  refine XS.go (XS.lcl (L3 := [some (.ref 0), some (.ref (hz (hsi r1.2 1 1 0))), none, none]) (s_astoren rfl rfl (Nat.le_of_ble_eq_true rfl)) rfl) ?_
  refine XS.go (s_aloadn rfl rfl rfl) ?_
  replace hf := xi_none hf
  obtain ⟨qk12, hf⟩ := hf
  replace hf := xb_some hf
  obtain ⟨r13, e14, hf⟩ := hf
  refine r_callv rfl xvX7_parse xm11_93 (kf_p_parse (d := d) L11 e14) qk12.1 qk12.2 (by decide) rfl rfl (dl (by decide)) (by decide) (Nat.le_of_ble_eq_true rfl) ?_
  rintro _ _ ⟨⟨rfl, rfl⟩, L15⟩
  refine XS.go (XS.lcl (L3 := [some (.ref 0), some (.ref (hz (hsi r1.2 1 1 0))), some (.int r13.1), none]) (s_istoren rfl rfl (Nat.le_of_ble_eq_true rfl)) rfl) ?_
  refine XS.go (s_aloadn rfl rfl rfl) ?_
  refine XS.go (s_aloadn rfl rfl rfl) ?_
  replace hf := xi_none hf
  obtain ⟨qk16, hf⟩ := hf
  refine XS.go (s_getie rfl xf11_97 qk16.1 qk16.2 (by decide) rfl rfl) ?_
  refine XS.go (s_puti rfl xf11_57 (LY.lt L15 (by decide)) (LY.k0 L15) (by decide) rfl (Or.inl rfl)) ?_
  refine XS.go (s_aloadn rfl rfl rfl) ?_
  refine XS.go (s_aloadn rfl rfl rfl) ?_
  refine XS.go (s_getie rfl xf11_100 (show (hz (hsi r1.2 1 1 0)) < hz _ by simp only [hz_hsi, hk_hsi, hz_hsj, hk_hsj]; exact qk16.1) (by simp only [hz_hsi, hk_hsi, hz_hsj, hk_hsj]; exact qk16.2) (by decide) rfl rfl) ?_
  refine XS.go (s_puti rfl xf11_61 (LY.lt (by simp only [LY_si, LY_sj]; exact L15) (by decide)) (LY.k0 (by simp only [LY_si, LY_sj]; exact L15)) (by decide) rfl (Or.inl rfl)) ?_
  refine XS.go (s_iloadn rfl rfl rfl) ?_
  refine r_if_ne (tgt := 70) rfl rfl (fun qc17 => ?_) (fun qc17 => ?_)
  · replace hf := xi_pos hf qc17
    refine XS.go (s_aloadn rfl rfl rfl) ?_
    replace hf := xb_some hf
    obtain ⟨b18, qr19, hf⟩ := hf
    refine XS.go (s_getr rfl xf11_36 (LY.lt (by simp only [LY_si, LY_sj]; exact L15) (by decide)) (LY.k0 (by simp only [LY_si, LY_sj]; exact L15)) (by decide) rfl (by simp only [hr_hsi, hr_hsj]; exact qr19)) ?_
    refine XS.go (XS.lcl (L3 := [some (.ref 0), some (.ref (hz (hsi r1.2 1 1 0))), some (.int r13.1), some (.ref b18)]) (s_astoren rfl rfl (Nat.le_of_ble_eq_true rfl)) rfl) ?_
    refine XS.go (s_aloadn rfl rfl rfl) ?_
    refine XS.go (s_aloadn rfl rfl rfl) ?_
    replace hf := xb_some hf
    obtain ⟨b20, qr21, hf⟩ := hf
    refine XS.go (s_getr rfl xf11_40 (LY.lt (by simp only [LY_si, LY_sj]; exact L15) (by decide)) (LY.k0 (by simp only [LY_si, LY_sj]; exact L15)) (by decide) rfl (by simp only [hr_hsi, hr_hsj]; exact qr21)) ?_
    have L22 : LY (hsr (hsi (hsi r13.2 0 8 (hi r13.2 (hz (hsi r1.2 1 1 0)) 7)) 0 9 (hi (hsi r13.2 0 8 (hi r13.2 (hz (hsi r1.2 1 1 0)) 7)) (hz (hsi r1.2 1 1 0)) 8)) 0 4 (some b20)) := LY.sr4 (by simp only [LY_si, LY_sj]; exact L15)
    refine XS.go (s_putr rfl xf11_36 (LY.lt (by simp only [LY_si, LY_sj]; exact L15) (by decide)) (LY.k0 (by simp only [LY_si, LY_sj]; exact L15)) (by decide) rfl (Or.inl rfl)) ?_
    refine XS.go (s_aloadn rfl rfl rfl) ?_
    refine XS.go (s_aloadn rfl rfl rfl) ?_
    have L23 : LY (hsr (hsr (hsi (hsi r13.2 0 8 (hi r13.2 (hz (hsi r1.2 1 1 0)) 7)) 0 9 (hi (hsi r13.2 0 8 (hi r13.2 (hz (hsi r1.2 1 1 0)) 7)) (hz (hsi r1.2 1 1 0)) 8)) 0 4 (some b20)) 0 5 (some b18)) := LY.sr5 L22
    refine XS.go (s_putr rfl xf11_40 (LY.lt L22 (by decide)) (LY.k0 L22) (by decide) rfl (Or.inl rfl)) ?_
    refine XS.go (s_aloadn rfl rfl rfl) ?_
    refine XS.go (s_getr rfl xf11_46 (LY.lt L23 (by decide)) (LY.k0 L23) (by decide) rfl (LY.r0_6 L23)) ?_
    replace hf := xb_some hf
    obtain ⟨r24, e25, hf⟩ := hf
    refine r_callv rfl xvX0_empty xm11_110 (kf_u_empty (d := d) L23 e25) (LY.lt L23 (by decide)) (LY.k1244 L23) (by decide) rfl rfl (dl0 (by decide)) (by decide) (Nat.le_of_ble_eq_true rfl) ?_
    rintro _ _ ⟨⟨rfl, rfl⟩, L26⟩
    refine XS.go (s_aloadn rfl rfl rfl) ?_
    refine XS.go (s_getr rfl xf11_53 (LY.lt L26 (by decide)) (LY.k0 L26) (by decide) rfl (LY.r0_7 L26)) ?_
    replace hf := xb_some hf
    obtain ⟨r27, e28, hf⟩ := hf
    refine r_callv rfl xvX8_drop xm11_113 (kf_r_drop (d := d) L26 e28) (LY.lt L26 (by decide)) (LY.k1255 L26) (by decide) rfl rfl (dl0 (by decide)) (by decide) (Nat.le_of_ble_eq_true rfl) ?_
    rintro _ _ ⟨⟨rfl, rfl⟩, L29⟩
    refine XS.go (s_aloadn rfl rfl rfl) ?_
    replace hf := xb_some hf
    obtain ⟨b30, qr31, hf⟩ := hf
    refine XS.go (s_getr rfl xf11_36 (LY.lt L29 (by decide)) (LY.k0 L29) (by decide) rfl qr31) ?_
    replace hf := xi_none hf
    obtain ⟨qk32, hf⟩ := hf
    replace hf := xb_some hf
    obtain ⟨b33, qr34, hf⟩ := hf
    refine XS.go (s_getr rfl xf11_116 qk32.1 qk32.2 (by decide) rfl qr34) ?_
    replace hf := xi_none hf
    obtain ⟨qk35, hf⟩ := hf
    refine XS.go (s_getie rfl xf11_120 qk35.1 qk35.2 (by decide) rfl rfl) ?_
    cases hf
    exact XR.reti rfl rfl (fun hret => Or.inl ⟨_, hret, ⟨rfl, ⟨_, rfl, rfl⟩⟩, L29⟩)
  · replace hf := xi_neg hf qc17
    replace hf := xi_none hf
    obtain ⟨qk36, hf⟩ := hf
    cases hf
    exact XR.here (Or.inr ⟨0, _, rfl, rfl, ⟨103, 105, 107, 18, _, rfl, xthr0, ⟨⟨rfl, rfl, rfl⟩, Or.inl ⟨rfl, rfl, rfl⟩⟩, qk36⟩, rfl, LY.new (by simp only [LY_si, LY_sj]; exact L15) qk36⟩)
def f_t_fault (a0 : Int32) (h : XH) : Option (Int32 × XH) := (if a0 = 0 then (some ((hi h 0 8), h)) else (if a0 = 1 then (some ((hi h 0 9), h)) else (if a0 = 2 then (some ((hi h 0 10), h)) else (if a0 = 3 then (some ((hi h 0 11), h)) else (some ((-1), h))))))
set_option maxRecDepth 20000 in
theorem kf_t_fault {l : Launch} {G : XG} {d : Nat} {a0 : Int32} {h : XH} {r : Int32 × XH} (L0 : LY h) (hf : f_t_fault a0 h = some r) : XC l G xEX11_fault d [.ref 0, .int a0] h (fun v h2 => (h2 = r.2 ∧ v = some (.int r.1)) ∧ LY r.2) := by
  refine XC.virt xvX11_fault (Nat.le_of_ble_eq_true rfl) ?_
  unfold f_t_fault at hf
  refine XR.norm (L3 := [some (.ref 0), some (.int a0)]) rfl ?_
  refine XS.go (s_iloadn rfl rfl rfl) ?_
  by_cases qs1_0 : a0 = 0
  · replace hf := xi_pos hf qs1_0
    refine XS.go (s_tswI (tgt := 32) rfl (by rw [qs1_0]; decide) (by rw [qs1_0]; decide) (by rw [qs1_0]; rfl) rfl) ?_
    refine XS.go (s_aloadn rfl rfl rfl) ?_
    refine XS.go (s_getie rfl xf11_57 (LY.lt L0 (by decide)) (LY.k0 L0) (by decide) rfl rfl) ?_
    cases hf
    exact XR.reti rfl rfl (fun hret => ⟨_, hret, ⟨rfl, rfl⟩, L0⟩)
  replace hf := xi_neg hf qs1_0
  by_cases qs1_1 : a0 = 1
  · replace hf := xi_pos hf qs1_1
    refine XS.go (s_tswI (tgt := 37) rfl (by rw [qs1_1]; decide) (by rw [qs1_1]; decide) (by rw [qs1_1]; rfl) rfl) ?_
    refine XS.go (s_aloadn rfl rfl rfl) ?_
    refine XS.go (s_getie rfl xf11_61 (LY.lt L0 (by decide)) (LY.k0 L0) (by decide) rfl rfl) ?_
    cases hf
    exact XR.reti rfl rfl (fun hret => ⟨_, hret, ⟨rfl, rfl⟩, L0⟩)
  replace hf := xi_neg hf qs1_1
  by_cases qs1_2 : a0 = 2
  · replace hf := xi_pos hf qs1_2
    refine XS.go (s_tswI (tgt := 42) rfl (by rw [qs1_2]; decide) (by rw [qs1_2]; decide) (by rw [qs1_2]; rfl) rfl) ?_
    refine XS.go (s_aloadn rfl rfl rfl) ?_
    refine XS.go (s_getie rfl xf11_64 (LY.lt L0 (by decide)) (LY.k0 L0) (by decide) rfl rfl) ?_
    cases hf
    exact XR.reti rfl rfl (fun hret => ⟨_, hret, ⟨rfl, rfl⟩, L0⟩)
  replace hf := xi_neg hf qs1_2
  by_cases qs1_3 : a0 = 3
  · replace hf := xi_pos hf qs1_3
    refine XS.go (s_tswI (tgt := 47) rfl (by rw [qs1_3]; decide) (by rw [qs1_3]; decide) (by rw [qs1_3]; rfl) rfl) ?_
    refine XS.go (s_aloadn rfl rfl rfl) ?_
    refine XS.go (s_getie rfl xf11_67 (LY.lt L0 (by decide)) (LY.k0 L0) (by decide) rfl rfl) ?_
    cases hf
    exact XR.reti rfl rfl (fun hret => ⟨_, hret, ⟨rfl, rfl⟩, L0⟩)
  replace hf := xi_neg hf qs1_3
  have qs1_o : (a0).toInt < 0 ∨ 3 < (a0).toInt := by
    refine tsw_out 0 3 (by decide) ?_
    intro k h1 h2
    have z : k = 0 ∨ k = 1 ∨ k = 2 ∨ k = 3 := by omega
    rcases z with rfl | rfl | rfl | rfl
    · exact qs1_0
    · exact qs1_1
    · exact qs1_2
    · exact qs1_3
  refine XS.go (s_tswO (tgt := 52) rfl qs1_o rfl) ?_
  refine XS.go (s_iconst (v := (-1)) rfl rfl) ?_
  cases hf
  exact XR.reti rfl rfl (fun hret => ⟨_, hret, ⟨rfl, rfl⟩, L0⟩)
def f_t_memberCount (a0 : Nat) (h : XH) : Option (Int32 × XH) := (if a0 < hz h ∧ hk h a0 = 2 then (some ((hi h a0 3), h)) else none)
set_option maxRecDepth 20000 in
theorem kf_t_memberCount {l : Launch} {G : XG} {d : Nat} {a0 : Nat} {h : XH} {r : Int32 × XH} (L0 : LY h) (hf : f_t_memberCount a0 h = some r) : XC l G xEX11_memberCount d [.ref a0] h (fun v h2 => (h2 = r.2 ∧ v = some (.int r.1)) ∧ LY r.2) := by
  refine XC.stat xsX11_memberCount (Nat.le_of_ble_eq_true rfl) ?_
  unfold f_t_memberCount at hf
  refine XR.norm (L3 := [some (.ref a0)]) rfl ?_
  refine XS.go (s_aloadn rfl rfl rfl) ?_
  refine XS.go (s_ifnonnull_r (tgt := 8) rfl rfl) ?_
  refine XS.go (s_aloadn rfl rfl rfl) ?_
  replace hf := xi_none hf
  obtain ⟨qk1, hf⟩ := hf
  refine XS.go (s_getie rfl xf11_149 qk1.1 qk1.2 (by decide) rfl rfl) ?_
  cases hf
  exact XR.reti rfl rfl (fun hret => ⟨_, hret, ⟨rfl, rfl⟩, L0⟩)
def f_t_structSize (a0 : Nat) (a1 : Int32) (h : XH) : Option (Int32 × XH) := (if ¬ a1 = 4 then (if ¬ a1 = 5 then (if a0 < hz h ∧ hk h a0 = 2 then (some ((hi h a0 7), h)) else none) else (if a0 < hz h ∧ hk h a0 = 2 then (some ((hi h a0 6), h)) else none)) else (if a0 < hz h ∧ hk h a0 = 2 then (some ((hi h a0 3), h)) else none))
set_option maxRecDepth 20000 in
theorem kf_t_structSize {l : Launch} {G : XG} {d : Nat} {a0 : Nat} {a1 : Int32} {h : XH} {r : Int32 × XH} (L0 : LY h) (hf : f_t_structSize a0 a1 h = some r) : XC l G xEX11_structSize d [.ref a0, .int a1] h (fun v h2 => (h2 = r.2 ∧ v = some (.int r.1)) ∧ LY r.2) := by
  refine XC.stat xsX11_structSize (Nat.le_of_ble_eq_true rfl) ?_
  unfold f_t_structSize at hf
  refine XR.norm (L3 := [some (.ref a0), some (.int a1)]) rfl ?_
  refine XS.go (s_aloadn rfl rfl rfl) ?_
  refine XS.go (s_ifnonnull_r (tgt := 6) rfl rfl) ?_
  refine XS.go (s_iloadn rfl rfl rfl) ?_
  refine XS.go (s_iconst (v := 4) rfl rfl) ?_
  refine r_icmp_ne (tgt := 16) rfl rfl (fun qc1 => ?_) (fun qc1 => ?_)
  · replace hf := xi_pos hf qc1
    refine XS.go (s_iloadn rfl rfl rfl) ?_
    refine XS.go (s_iconst (v := 5) rfl rfl) ?_
    refine r_icmp_ne (tgt := 28) rfl rfl (fun qc2 => ?_) (fun qc2 => ?_)
    · replace hf := xi_pos hf qc2
      refine XS.go (s_aloadn rfl rfl rfl) ?_
      replace hf := xi_none hf
      obtain ⟨qk3, hf⟩ := hf
      refine XS.go (s_getie rfl xf11_157 qk3.1 qk3.2 (by decide) rfl rfl) ?_
      cases hf
      exact XR.reti rfl rfl (fun hret => ⟨_, hret, ⟨rfl, rfl⟩, L0⟩)
    · replace hf := xi_neg hf qc2
      refine XS.go (s_aloadn rfl rfl rfl) ?_
      replace hf := xi_none hf
      obtain ⟨qk4, hf⟩ := hf
      refine XS.go (s_getie rfl xf11_154 qk4.1 qk4.2 (by decide) rfl rfl) ?_
      refine XS.go (s_goto (tgt := 32) rfl rfl) ?_
      cases hf
      exact XR.reti rfl rfl (fun hret => ⟨_, hret, ⟨rfl, rfl⟩, L0⟩)
  · replace hf := xi_neg hf qc1
    refine XS.go (s_aloadn rfl rfl rfl) ?_
    replace hf := xi_none hf
    obtain ⟨qk5, hf⟩ := hf
    refine XS.go (s_getie rfl xf11_149 qk5.1 qk5.2 (by decide) rfl rfl) ?_
    cases hf
    exact XR.reti rfl rfl (fun hret => ⟨_, hret, ⟨rfl, rfl⟩, L0⟩)
def f_t_tableSize (a0 : Nat) (a1 : Int32) (h : XH) : Option (Int32 × XH) := (if ¬ a1 = 7 then (if a0 < hz h ∧ hk h a0 = 2 then (some ((hi h a0 8), h)) else none) else (if a0 < hz h ∧ hk h a0 = 2 then (some ((hi h a0 3), h)) else none))
set_option maxRecDepth 20000 in
theorem kf_t_tableSize {l : Launch} {G : XG} {d : Nat} {a0 : Nat} {a1 : Int32} {h : XH} {r : Int32 × XH} (L0 : LY h) (hf : f_t_tableSize a0 a1 h = some r) : XC l G xEX11_tableSize d [.ref a0, .int a1] h (fun v h2 => (h2 = r.2 ∧ v = some (.int r.1)) ∧ LY r.2) := by
  refine XC.stat xsX11_tableSize (Nat.le_of_ble_eq_true rfl) ?_
  unfold f_t_tableSize at hf
  refine XR.norm (L3 := [some (.ref a0), some (.int a1)]) rfl ?_
  refine XS.go (s_aloadn rfl rfl rfl) ?_
  refine XS.go (s_ifnonnull_r (tgt := 6) rfl rfl) ?_
  refine XS.go (s_iloadn rfl rfl rfl) ?_
  refine XS.go (s_bipush (v := 7) rfl rfl) ?_
  refine r_icmp_ne (tgt := 19) rfl rfl (fun qc1 => ?_) (fun qc1 => ?_)
  · replace hf := xi_pos hf qc1
    refine XS.go (s_aloadn rfl rfl rfl) ?_
    replace hf := xi_none hf
    obtain ⟨qk2, hf⟩ := hf
    refine XS.go (s_getie rfl xf11_160 qk2.1 qk2.2 (by decide) rfl rfl) ?_
    cases hf
    exact XR.reti rfl rfl (fun hret => ⟨_, hret, ⟨rfl, rfl⟩, L0⟩)
  · replace hf := xi_neg hf qc1
    refine XS.go (s_aloadn rfl rfl rfl) ?_
    replace hf := xi_none hf
    obtain ⟨qk3, hf⟩ := hf
    refine XS.go (s_getie rfl xf11_149 qk3.1 qk3.2 (by decide) rfl rfl) ?_
    refine XS.go (s_goto (tgt := 23) rfl rfl) ?_
    cases hf
    exact XR.reti rfl rfl (fun hret => ⟨_, hret, ⟨rfl, rfl⟩, L0⟩)
def b_t_size_113 (x1 : Int32) (x2 : Int32) (h : XH) : Option (Int32 × XH) := (Option.bind (hr h 0 4) fun b1 => (if b1 < hz h ∧ hk h b1 = 9 then (Option.bind (hr h b1 1) fun b4 => (if b4 < hz h ∧ hk h b4 = 4 then (Option.bind (f_g_at b4 x2 h) fun r7 => (Option.bind (r7.1) fun b10 => (Option.bind (f_t_tableSize b10 x1 r7.2) fun r12 => (some (r12.1, r12.2))))) else none)) else none))
set_option maxRecDepth 20000 in
theorem kb_t_size_113 {l : Launch} {G : XG} {d : Nat} {x1 : Int32} {x2 : Int32} {h : XH} {r : Int32 × XH} (L0 : LY h) (hf : b_t_size_113 x1 x2 h = some r) : XR l G xEX11_size (d + 1) (113, [some (.ref 0), some (.int x1), some (.int x2)], [], h) (fun C => ∃ v, xRet xEX11_size C v ∧ (C.2.2.2 = r.2 ∧ v = some (.int r.1)) ∧ LY r.2) := by
  unfold b_t_size_113 at hf
  refine XS.go (s_aloadn rfl rfl rfl) ?_
  replace hf := xb_some hf
  obtain ⟨b1, qr2, hf⟩ := hf
  refine XS.go (s_getr rfl xf11_36 (LY.lt L0 (by decide)) (LY.k0 L0) (by decide) rfl qr2) ?_
  replace hf := xi_none hf
  obtain ⟨qk3, hf⟩ := hf
  replace hf := xb_some hf
  obtain ⟨b4, qr5, hf⟩ := hf
  refine XS.go (s_getr rfl xf11_116 qk3.1 qk3.2 (by decide) rfl qr5) ?_
  refine XS.go (s_iloadn rfl rfl rfl) ?_
  replace hf := xi_none hf
  obtain ⟨qk6, hf⟩ := hf
  replace hf := xb_some hf
  obtain ⟨r7, e8, hf⟩ := hf
  refine r_callv rfl xvX4_at xm11_134 (kf_g_at (d := d) L0 e8) qk6.1 qk6.2 (by decide) rfl rfl (dl0 (by decide)) (by decide) (Nat.le_of_ble_eq_true rfl) ?_
  rintro _ _ ⟨⟨rfl, rfl⟩, L9⟩
  refine XS.go (s_iloadn rfl rfl rfl) ?_
  replace hf := xb_some hf
  obtain ⟨b10, qo11, hf⟩ := hf
  try rw [qo11]
  replace hf := xb_some hf
  obtain ⟨r12, e13, hf⟩ := hf
  refine r_calls rfl xsX11_tableSize xm11_142 (kf_t_tableSize (d := d) L9 e13) rfl rfl (dl0 (by decide)) (by decide) (Nat.le_of_ble_eq_true rfl) ?_
  rintro _ _ ⟨⟨rfl, rfl⟩, L14⟩
  cases hf
  exact XR.reti rfl rfl (fun hret => ⟨_, hret, ⟨rfl, rfl⟩, L14⟩)
def b_t_size_97 (x1 : Int32) (x2 : Int32) (h : XH) : Option (Int32 × XH) := (Option.bind (hr h 0 4) fun b15 => (if b15 < hz h ∧ hk h b15 = 9 then (Option.bind (hr h b15 0) fun b18 => (if b18 < hz h ∧ hk h b18 = 4 then (Option.bind (f_g_at b18 x2 h) fun r21 => (Option.bind (r21.1) fun b24 => (Option.bind (f_t_structSize b24 x1 r21.2) fun r26 => (some (r26.1, r26.2))))) else none)) else none))
set_option maxRecDepth 20000 in
theorem kb_t_size_97 {l : Launch} {G : XG} {d : Nat} {x1 : Int32} {x2 : Int32} {h : XH} {r : Int32 × XH} (L0 : LY h) (hf : b_t_size_97 x1 x2 h = some r) : XR l G xEX11_size (d + 1) (97, [some (.ref 0), some (.int x1), some (.int x2)], [], h) (fun C => ∃ v, xRet xEX11_size C v ∧ (C.2.2.2 = r.2 ∧ v = some (.int r.1)) ∧ LY r.2) := by
  unfold b_t_size_97 at hf
  refine XS.go (s_aloadn rfl rfl rfl) ?_
  replace hf := xb_some hf
  obtain ⟨b15, qr16, hf⟩ := hf
  refine XS.go (s_getr rfl xf11_36 (LY.lt L0 (by decide)) (LY.k0 L0) (by decide) rfl qr16) ?_
  replace hf := xi_none hf
  obtain ⟨qk17, hf⟩ := hf
  replace hf := xb_some hf
  obtain ⟨b18, qr19, hf⟩ := hf
  refine XS.go (s_getr rfl xf11_125 qk17.1 qk17.2 (by decide) rfl qr19) ?_
  refine XS.go (s_iloadn rfl rfl rfl) ?_
  replace hf := xi_none hf
  obtain ⟨qk20, hf⟩ := hf
  replace hf := xb_some hf
  obtain ⟨r21, e22, hf⟩ := hf
  refine r_callv rfl xvX4_at xm11_134 (kf_g_at (d := d) L0 e22) qk20.1 qk20.2 (by decide) rfl rfl (dl0 (by decide)) (by decide) (Nat.le_of_ble_eq_true rfl) ?_
  rintro _ _ ⟨⟨rfl, rfl⟩, L23⟩
  refine XS.go (s_iloadn rfl rfl rfl) ?_
  replace hf := xb_some hf
  obtain ⟨b24, qo25, hf⟩ := hf
  try rw [qo25]
  replace hf := xb_some hf
  obtain ⟨r26, e27, hf⟩ := hf
  refine r_calls rfl xsX11_structSize xm11_138 (kf_t_structSize (d := d) L23 e27) rfl rfl (dl0 (by decide)) (by decide) (Nat.le_of_ble_eq_true rfl) ?_
  rintro _ _ ⟨⟨rfl, rfl⟩, L28⟩
  cases hf
  exact XR.reti rfl rfl (fun hret => ⟨_, hret, ⟨rfl, rfl⟩, L28⟩)
def f_t_size (a0 : Int32) (a1 : Int32) (h : XH) : Option (Int32 × XH) := (if a0 = 0 then (Option.bind (hr h 0 4) fun b30 => (if b30 < hz h ∧ hk h b30 = 9 then (Option.bind (hr h b30 0) fun b33 => (if b33 < hz h ∧ hk h b33 = 4 then (some ((hi h b33 1), h)) else none)) else none)) else (if a0 = 1 then (Option.bind (hr h 0 4) fun b36 => (if b36 < hz h ∧ hk h b36 = 9 then (Option.bind (hr h b36 1) fun b39 => (if b39 < hz h ∧ hk h b39 = 4 then (some ((hi h b39 1), h)) else none)) else none)) else (if a0 = 2 then (Option.bind (hr h 0 4) fun b42 => (if b42 < hz h ∧ hk h b42 = 9 then (Option.bind (hr h b42 2) fun b45 => (if b45 < hz h ∧ hk h b45 = 4 then (some ((hi h b45 1), h)) else none)) else none)) else (if a0 = 3 then (Option.bind (hr h 0 4) fun b48 => (if b48 < hz h ∧ hk h b48 = 9 then (some ((hi h b48 5), h)) else none)) else (if a0 = 4 then (b_t_size_97 a0 a1 h) else (if a0 = 5 then (b_t_size_97 a0 a1 h) else (if a0 = 6 then (b_t_size_97 a0 a1 h) else (if a0 = 7 then (b_t_size_113 a0 a1 h) else (if a0 = 8 then (b_t_size_113 a0 a1 h) else (if a0 = 9 then (Option.bind (hr h 0 4) fun b51 => (if b51 < hz h ∧ hk h b51 = 9 then (Option.bind (hr h b51 2) fun b54 => (if b54 < hz h ∧ hk h b54 = 4 then (Option.bind (f_g_at b54 a1 h) fun r57 => (Option.bind (r57.1) fun b60 => (Option.bind (f_t_memberCount b60 r57.2) fun r62 => (some (r62.1, r62.2))))) else none)) else none)) else (some ((-1), h))))))))))))
set_option maxRecDepth 20000 in
theorem kf_t_size {l : Launch} {G : XG} {d : Nat} {a0 : Int32} {a1 : Int32} {h : XH} {r : Int32 × XH} (L0 : LY h) (hf : f_t_size a0 a1 h = some r) : XC l G xEX11_size (d + 1) [.ref 0, .int a0, .int a1] h (fun v h2 => (h2 = r.2 ∧ v = some (.int r.1)) ∧ LY r.2) := by
  refine XC.virt xvX11_size (Nat.le_of_ble_eq_true rfl) ?_
  unfold f_t_size at hf
  refine XR.norm (L3 := [some (.ref 0), some (.int a0), some (.int a1)]) rfl ?_
  refine XS.go (s_iloadn rfl rfl rfl) ?_
  by_cases qs29_0 : a0 = 0
  · replace hf := xi_pos hf qs29_0
    refine XS.go (s_tswI (tgt := 56) rfl (by rw [qs29_0]; decide) (by rw [qs29_0]; decide) (by rw [qs29_0]; rfl) rfl) ?_
    refine XS.go (s_aloadn rfl rfl rfl) ?_
    replace hf := xb_some hf
    obtain ⟨b30, qr31, hf⟩ := hf
    refine XS.go (s_getr rfl xf11_36 (LY.lt L0 (by decide)) (LY.k0 L0) (by decide) rfl qr31) ?_
    replace hf := xi_none hf
    obtain ⟨qk32, hf⟩ := hf
    replace hf := xb_some hf
    obtain ⟨b33, qr34, hf⟩ := hf
    refine XS.go (s_getr rfl xf11_125 qk32.1 qk32.2 (by decide) rfl qr34) ?_
    replace hf := xi_none hf
    obtain ⟨qk35, hf⟩ := hf
    refine XS.go (s_getie rfl xf11_120 qk35.1 qk35.2 (by decide) rfl rfl) ?_
    cases hf
    exact XR.reti rfl rfl (fun hret => ⟨_, hret, ⟨rfl, rfl⟩, L0⟩)
  replace hf := xi_neg hf qs29_0
  by_cases qs29_1 : a0 = 1
  · replace hf := xi_pos hf qs29_1
    refine XS.go (s_tswI (tgt := 67) rfl (by rw [qs29_1]; decide) (by rw [qs29_1]; decide) (by rw [qs29_1]; rfl) rfl) ?_
    refine XS.go (s_aloadn rfl rfl rfl) ?_
    replace hf := xb_some hf
    obtain ⟨b36, qr37, hf⟩ := hf
    refine XS.go (s_getr rfl xf11_36 (LY.lt L0 (by decide)) (LY.k0 L0) (by decide) rfl qr37) ?_
    replace hf := xi_none hf
    obtain ⟨qk38, hf⟩ := hf
    replace hf := xb_some hf
    obtain ⟨b39, qr40, hf⟩ := hf
    refine XS.go (s_getr rfl xf11_116 qk38.1 qk38.2 (by decide) rfl qr40) ?_
    replace hf := xi_none hf
    obtain ⟨qk41, hf⟩ := hf
    refine XS.go (s_getie rfl xf11_120 qk41.1 qk41.2 (by decide) rfl rfl) ?_
    cases hf
    exact XR.reti rfl rfl (fun hret => ⟨_, hret, ⟨rfl, rfl⟩, L0⟩)
  replace hf := xi_neg hf qs29_1
  by_cases qs29_2 : a0 = 2
  · replace hf := xi_pos hf qs29_2
    refine XS.go (s_tswI (tgt := 78) rfl (by rw [qs29_2]; decide) (by rw [qs29_2]; decide) (by rw [qs29_2]; rfl) rfl) ?_
    refine XS.go (s_aloadn rfl rfl rfl) ?_
    replace hf := xb_some hf
    obtain ⟨b42, qr43, hf⟩ := hf
    refine XS.go (s_getr rfl xf11_36 (LY.lt L0 (by decide)) (LY.k0 L0) (by decide) rfl qr43) ?_
    replace hf := xi_none hf
    obtain ⟨qk44, hf⟩ := hf
    replace hf := xb_some hf
    obtain ⟨b45, qr46, hf⟩ := hf
    refine XS.go (s_getr rfl xf11_128 qk44.1 qk44.2 (by decide) rfl qr46) ?_
    replace hf := xi_none hf
    obtain ⟨qk47, hf⟩ := hf
    refine XS.go (s_getie rfl xf11_120 qk47.1 qk47.2 (by decide) rfl rfl) ?_
    cases hf
    exact XR.reti rfl rfl (fun hret => ⟨_, hret, ⟨rfl, rfl⟩, L0⟩)
  replace hf := xi_neg hf qs29_2
  by_cases qs29_3 : a0 = 3
  · replace hf := xi_pos hf qs29_3
    refine XS.go (s_tswI (tgt := 89) rfl (by rw [qs29_3]; decide) (by rw [qs29_3]; decide) (by rw [qs29_3]; rfl) rfl) ?_
    refine XS.go (s_aloadn rfl rfl rfl) ?_
    replace hf := xb_some hf
    obtain ⟨b48, qr49, hf⟩ := hf
    refine XS.go (s_getr rfl xf11_36 (LY.lt L0 (by decide)) (LY.k0 L0) (by decide) rfl qr49) ?_
    replace hf := xi_none hf
    obtain ⟨qk50, hf⟩ := hf
    refine XS.go (s_getie rfl xf11_131 qk50.1 qk50.2 (by decide) rfl rfl) ?_
    cases hf
    exact XR.reti rfl rfl (fun hret => ⟨_, hret, ⟨rfl, rfl⟩, L0⟩)
  replace hf := xi_neg hf qs29_3
  by_cases qs29_4 : a0 = 4
  · replace hf := xi_pos hf qs29_4
    refine XS.go (s_tswI (tgt := 97) rfl (by rw [qs29_4]; decide) (by rw [qs29_4]; decide) (by rw [qs29_4]; rfl) rfl) ?_
    exact XR.forget (L2 := [some (.ref 0), some (.int a0), some (.int a1)]) ⟨rfl, ⟨rfl, ⟨rfl, trivial⟩⟩⟩ (kb_t_size_97 L0 hf)
  replace hf := xi_neg hf qs29_4
  by_cases qs29_5 : a0 = 5
  · replace hf := xi_pos hf qs29_5
    refine XS.go (s_tswI (tgt := 97) rfl (by rw [qs29_5]; decide) (by rw [qs29_5]; decide) (by rw [qs29_5]; rfl) rfl) ?_
    exact XR.forget (L2 := [some (.ref 0), some (.int a0), some (.int a1)]) ⟨rfl, ⟨rfl, ⟨rfl, trivial⟩⟩⟩ (kb_t_size_97 L0 hf)
  replace hf := xi_neg hf qs29_5
  by_cases qs29_6 : a0 = 6
  · replace hf := xi_pos hf qs29_6
    refine XS.go (s_tswI (tgt := 97) rfl (by rw [qs29_6]; decide) (by rw [qs29_6]; decide) (by rw [qs29_6]; rfl) rfl) ?_
    exact XR.forget (L2 := [some (.ref 0), some (.int a0), some (.int a1)]) ⟨rfl, ⟨rfl, ⟨rfl, trivial⟩⟩⟩ (kb_t_size_97 L0 hf)
  replace hf := xi_neg hf qs29_6
  by_cases qs29_7 : a0 = 7
  · replace hf := xi_pos hf qs29_7
    refine XS.go (s_tswI (tgt := 113) rfl (by rw [qs29_7]; decide) (by rw [qs29_7]; decide) (by rw [qs29_7]; rfl) rfl) ?_
    exact XR.forget (L2 := [some (.ref 0), some (.int a0), some (.int a1)]) ⟨rfl, ⟨rfl, ⟨rfl, trivial⟩⟩⟩ (kb_t_size_113 L0 hf)
  replace hf := xi_neg hf qs29_7
  by_cases qs29_8 : a0 = 8
  · replace hf := xi_pos hf qs29_8
    refine XS.go (s_tswI (tgt := 113) rfl (by rw [qs29_8]; decide) (by rw [qs29_8]; decide) (by rw [qs29_8]; rfl) rfl) ?_
    exact XR.forget (L2 := [some (.ref 0), some (.int a0), some (.int a1)]) ⟨rfl, ⟨rfl, ⟨rfl, trivial⟩⟩⟩ (kb_t_size_113 L0 hf)
  replace hf := xi_neg hf qs29_8
  by_cases qs29_9 : a0 = 9
  · replace hf := xi_pos hf qs29_9
    refine XS.go (s_tswI (tgt := 129) rfl (by rw [qs29_9]; decide) (by rw [qs29_9]; decide) (by rw [qs29_9]; rfl) rfl) ?_
    refine XS.go (s_aloadn rfl rfl rfl) ?_
    replace hf := xb_some hf
    obtain ⟨b51, qr52, hf⟩ := hf
    refine XS.go (s_getr rfl xf11_36 (LY.lt L0 (by decide)) (LY.k0 L0) (by decide) rfl qr52) ?_
    replace hf := xi_none hf
    obtain ⟨qk53, hf⟩ := hf
    replace hf := xb_some hf
    obtain ⟨b54, qr55, hf⟩ := hf
    refine XS.go (s_getr rfl xf11_128 qk53.1 qk53.2 (by decide) rfl qr55) ?_
    refine XS.go (s_iloadn rfl rfl rfl) ?_
    replace hf := xi_none hf
    obtain ⟨qk56, hf⟩ := hf
    replace hf := xb_some hf
    obtain ⟨r57, e58, hf⟩ := hf
    refine r_callv rfl xvX4_at xm11_134 (kf_g_at (d := d) L0 e58) qk56.1 qk56.2 (by decide) rfl rfl (dl0 (by decide)) (by decide) (Nat.le_of_ble_eq_true rfl) ?_
    rintro _ _ ⟨⟨rfl, rfl⟩, L59⟩
    replace hf := xb_some hf
    obtain ⟨b60, qo61, hf⟩ := hf
    try rw [qo61]
    replace hf := xb_some hf
    obtain ⟨r62, e63, hf⟩ := hf
    refine r_calls rfl xsX11_memberCount xm11_145 (kf_t_memberCount (d := d) L59 e63) rfl rfl (dl0 (by decide)) (by decide) (Nat.le_of_ble_eq_true rfl) ?_
    rintro _ _ ⟨⟨rfl, rfl⟩, L64⟩
    cases hf
    exact XR.reti rfl rfl (fun hret => ⟨_, hret, ⟨rfl, rfl⟩, L64⟩)
  replace hf := xi_neg hf qs29_9
  have qs29_o : (a0).toInt < 0 ∨ 9 < (a0).toInt := by
    refine tsw_out 0 9 (by decide) ?_
    intro k h1 h2
    have z : k = 0 ∨ k = 1 ∨ k = 2 ∨ k = 3 ∨ k = 4 ∨ k = 5 ∨ k = 6 ∨ k = 7 ∨ k = 8 ∨ k = 9 := by omega
    rcases z with rfl | rfl | rfl | rfl | rfl | rfl | rfl | rfl | rfl | rfl
    · exact qs29_0
    · exact qs29_1
    · exact qs29_2
    · exact qs29_3
    · exact qs29_4
    · exact qs29_5
    · exact qs29_6
    · exact qs29_7
    · exact qs29_8
    · exact qs29_9
  refine XS.go (s_tswO (tgt := 144) rfl qs29_o rfl) ?_
  refine XS.go (s_iconst (v := (-1)) rfl rfl) ?_
  cases hf
  exact XR.reti rfl rfl (fun hret => ⟨_, hret, ⟨rfl, rfl⟩, L0⟩)
def b_t_structOrTable_29 (y0 : Option Nat) (h : XH) : Option (Option Nat × XH) := (some (y0, h))
set_option maxRecDepth 20000 in
theorem kb_t_structOrTable_29 {l : Launch} {G : XG} {d : Nat} {y0 : Option Nat} {h : XH} {r : Option Nat × XH} (L0 : LY h) (hf : b_t_structOrTable_29 y0 h = some r) : XR l G xEX11_structOrTable (d + 1) (29, [none, none, none], [(va_rf y0)], h) (fun C => ∃ v, xRet xEX11_structOrTable C v ∧ (C.2.2.2 = r.2 ∧ v = some (va_rf r.1)) ∧ LY r.2) := by
  unfold b_t_structOrTable_29 at hf
  cases hf
  exact XR.reta (o := y0) rfl rfl (fun hret => ⟨_, hret, ⟨rfl, rfl⟩, L0⟩)
def f_t_structOrTable (a0 : Int32) (a1 : Int32) (h : XH) : Option (Option Nat × XH) := (if a0 = 0 then (Option.bind (hr h 0 4) fun b2 => (if b2 < hz h ∧ hk h b2 = 9 then (Option.bind (hr h b2 1) fun b5 => (if b5 < hz h ∧ hk h b5 = 4 then (Option.bind (f_g_at b5 a1 h) fun r8 => (b_t_structOrTable_29 r8.1 r8.2)) else none)) else none)) else (Option.bind (hr h 0 4) fun b11 => (if b11 < hz h ∧ hk h b11 = 9 then (Option.bind (hr h b11 0) fun b14 => (if b14 < hz h ∧ hk h b14 = 4 then (Option.bind (f_g_at b14 a1 h) fun r17 => (b_t_structOrTable_29 r17.1 r17.2)) else none)) else none)))
set_option maxRecDepth 20000 in
theorem kf_t_structOrTable {l : Launch} {G : XG} {d : Nat} {a0 : Int32} {a1 : Int32} {h : XH} {r : Option Nat × XH} (L0 : LY h) (hf : f_t_structOrTable a0 a1 h = some r) : XC l G xEX11_structOrTable (d + 1) [.ref 0, .int a0, .int a1] h (fun v h2 => (h2 = r.2 ∧ v = some (va_rf r.1)) ∧ LY r.2) := by
  refine XC.virt xvX11_structOrTable (Nat.le_of_ble_eq_true rfl) ?_
  unfold f_t_structOrTable at hf
  refine XR.norm (L3 := [some (.ref 0), some (.int a0), some (.int a1)]) rfl ?_
  refine XS.go (s_iloadn rfl rfl rfl) ?_
  refine r_if_eq (tgt := 18) rfl rfl (fun qc1 => ?_) (fun qc1 => ?_)
  · replace hf := xi_pos hf qc1
    refine XS.go (s_aloadn rfl rfl rfl) ?_
    replace hf := xb_some hf
    obtain ⟨b2, qr3, hf⟩ := hf
    refine XS.go (s_getr rfl xf11_36 (LY.lt L0 (by decide)) (LY.k0 L0) (by decide) rfl qr3) ?_
    replace hf := xi_none hf
    obtain ⟨qk4, hf⟩ := hf
    replace hf := xb_some hf
    obtain ⟨b5, qr6, hf⟩ := hf
    refine XS.go (s_getr rfl xf11_116 qk4.1 qk4.2 (by decide) rfl qr6) ?_
    refine XS.go (s_iloadn rfl rfl rfl) ?_
    replace hf := xi_none hf
    obtain ⟨qk7, hf⟩ := hf
    replace hf := xb_some hf
    obtain ⟨r8, e9, hf⟩ := hf
    refine r_callv rfl xvX4_at xm11_134 (kf_g_at (d := d) L0 e9) qk7.1 qk7.2 (by decide) rfl rfl (dl0 (by decide)) (by decide) (Nat.le_of_ble_eq_true rfl) ?_
    rintro _ _ ⟨⟨rfl, rfl⟩, L10⟩
    exact XR.forget (L2 := [none, none, none]) trivial (kb_t_structOrTable_29 L10 hf)
  · replace hf := xi_neg hf qc1
    refine XS.go (s_aloadn rfl rfl rfl) ?_
    replace hf := xb_some hf
    obtain ⟨b11, qr12, hf⟩ := hf
    refine XS.go (s_getr rfl xf11_36 (LY.lt L0 (by decide)) (LY.k0 L0) (by decide) rfl qr12) ?_
    replace hf := xi_none hf
    obtain ⟨qk13, hf⟩ := hf
    replace hf := xb_some hf
    obtain ⟨b14, qr15, hf⟩ := hf
    refine XS.go (s_getr rfl xf11_125 qk13.1 qk13.2 (by decide) rfl qr15) ?_
    refine XS.go (s_iloadn rfl rfl rfl) ?_
    replace hf := xi_none hf
    obtain ⟨qk16, hf⟩ := hf
    replace hf := xb_some hf
    obtain ⟨r17, e18, hf⟩ := hf
    refine r_callv rfl xvX4_at xm11_134 (kf_g_at (d := d) L0 e18) qk16.1 qk16.2 (by decide) rfl rfl (dl0 (by decide)) (by decide) (Nat.le_of_ble_eq_true rfl) ?_
    rintro _ _ ⟨⟨rfl, rfl⟩, L19⟩
    refine XS.go (s_goto (tgt := 29) rfl rfl) ?_
    exact XR.forget (L2 := [none, none, none]) trivial (kb_t_structOrTable_29 L19 hf)
def f_t_field (a0 : Int32) (a1 : Int32) (a2 : Int32) (a3 : Int32) (h : XH) : Option (Int32 × XH) := (Option.bind (f_t_structOrTable a0 a1 h) fun r1 => (Option.bind (r1.1) fun b4 => (Option.bind (f_t_fieldOf b4 a2 r1.2) fun r6 => (Option.elim (r6.1) (some ((-1), r6.2)) fun b10 => (if a3 = 0 then (if b10 < hz r6.2 ∧ hk r6.2 b10 = 3 then (some ((hi r6.2 b10 3), r6.2)) else none) else (if a3 = 1 then (if b10 < hz r6.2 ∧ hk r6.2 b10 = 3 then (some ((hi r6.2 b10 4), r6.2)) else none) else (if a3 = 2 then (if b10 < hz r6.2 ∧ hk r6.2 b10 = 3 then (some ((hi r6.2 b10 5), r6.2)) else none) else (if a3 = 3 then (if b10 < hz r6.2 ∧ hk r6.2 b10 = 3 then (some ((hi r6.2 b10 6), r6.2)) else none) else (if a3 = 4 then (if b10 < hz r6.2 ∧ hk r6.2 b10 = 3 then (if (hi r6.2 b10 7) = 0 then (some (0, r6.2)) else (some (1, r6.2))) else none) else (some ((-1), r6.2)))))))))))
set_option maxRecDepth 20000 in
theorem kf_t_field {l : Launch} {G : XG} {d : Nat} {a0 : Int32} {a1 : Int32} {a2 : Int32} {a3 : Int32} {h : XH} {r : Int32 × XH} (L0 : LY h) (hf : f_t_field a0 a1 a2 a3 h = some r) : XC l G xEX11_field (d + 2) [.ref 0, .int a0, .int a1, .int a2, .int a3] h (fun v h2 => (h2 = r.2 ∧ v = some (.int r.1)) ∧ LY r.2) := by
  refine XC.virt xvX11_field (Nat.le_of_ble_eq_true rfl) ?_
  unfold f_t_field at hf
  refine XR.norm (L3 := [some (.ref 0), some (.int a0), some (.int a1), some (.int a2), some (.int a3), none]) rfl ?_
  refine XS.go (s_aloadn rfl rfl rfl) ?_
  refine XS.go (s_iloadn rfl rfl rfl) ?_
  refine XS.go (s_iloadn rfl rfl rfl) ?_
  replace hf := xb_some hf
  obtain ⟨r1, e2, hf⟩ := hf
  refine r_callv rfl xvX11_structOrTable xm11_163 (kf_t_structOrTable (d := d) L0 e2) (LY.lt L0 (by decide)) (LY.k0 L0) (by decide) rfl rfl (dl (by decide)) (by decide) (Nat.le_of_ble_eq_true rfl) ?_
  rintro _ _ ⟨⟨rfl, rfl⟩, L3⟩
  refine XS.go (s_iloadn rfl rfl rfl) ?_
  replace hf := xb_some hf
  obtain ⟨b4, qo5, hf⟩ := hf
  try rw [qo5]
  replace hf := xb_some hf
  obtain ⟨r6, e7, hf⟩ := hf
  refine r_calls rfl xsX11_fieldOf xm11_167 (kf_t_fieldOf (d := d) L3 e7) rfl rfl (dl (by decide)) (by decide) (Nat.le_of_ble_eq_true rfl) ?_
  rintro _ _ ⟨⟨rfl, rfl⟩, L8⟩
  refine XS.go (XS.lcl (L3 := [some (.ref 0), some (.int a0), some (.int a1), some (.int a2), some (.int a3), some (va_rf r6.1)]) (s_astoreO rfl (Nat.le_of_ble_eq_true rfl)) rfl) ?_
  refine XS.go (s_aloadO rfl rfl) ?_
  refine r_ifnonnull (tgt := 19) rfl rfl (fun qn9 => ?_) (fun b10 qn9 => ?_)
  · replace hf := xo_none hf qn9
    try rw [qn9]
    refine XS.go (s_iconst (v := (-1)) rfl rfl) ?_
    cases hf
    exact XR.reti rfl rfl (fun hret => ⟨_, hret, ⟨rfl, rfl⟩, L8⟩)
  · replace hf := xo_some hf qn9
    try rw [qn9]
    refine XS.go (s_iload rfl rfl) ?_
    by_cases qs11_0 : a3 = 0
    · replace hf := xi_pos hf qs11_0
      refine XS.go (s_tswI (tgt := 56) rfl (by rw [qs11_0]; decide) (by rw [qs11_0]; decide) (by rw [qs11_0]; rfl) rfl) ?_
      refine XS.go (s_aload rfl rfl) ?_
      replace hf := xi_none hf
      obtain ⟨qk12, hf⟩ := hf
      refine XS.go (s_getie rfl xf11_171 qk12.1 qk12.2 (by decide) rfl rfl) ?_
      cases hf
      exact XR.reti rfl rfl (fun hret => ⟨_, hret, ⟨rfl, rfl⟩, L8⟩)
    replace hf := xi_neg hf qs11_0
    by_cases qs11_1 : a3 = 1
    · replace hf := xi_pos hf qs11_1
      refine XS.go (s_tswI (tgt := 62) rfl (by rw [qs11_1]; decide) (by rw [qs11_1]; decide) (by rw [qs11_1]; rfl) rfl) ?_
      refine XS.go (s_aload rfl rfl) ?_
      replace hf := xi_none hf
      obtain ⟨qk13, hf⟩ := hf
      refine XS.go (s_getie rfl xf11_176 qk13.1 qk13.2 (by decide) rfl rfl) ?_
      cases hf
      exact XR.reti rfl rfl (fun hret => ⟨_, hret, ⟨rfl, rfl⟩, L8⟩)
    replace hf := xi_neg hf qs11_1
    by_cases qs11_2 : a3 = 2
    · replace hf := xi_pos hf qs11_2
      refine XS.go (s_tswI (tgt := 68) rfl (by rw [qs11_2]; decide) (by rw [qs11_2]; decide) (by rw [qs11_2]; rfl) rfl) ?_
      refine XS.go (s_aload rfl rfl) ?_
      replace hf := xi_none hf
      obtain ⟨qk14, hf⟩ := hf
      refine XS.go (s_getie rfl xf11_179 qk14.1 qk14.2 (by decide) rfl rfl) ?_
      cases hf
      exact XR.reti rfl rfl (fun hret => ⟨_, hret, ⟨rfl, rfl⟩, L8⟩)
    replace hf := xi_neg hf qs11_2
    by_cases qs11_3 : a3 = 3
    · replace hf := xi_pos hf qs11_3
      refine XS.go (s_tswI (tgt := 74) rfl (by rw [qs11_3]; decide) (by rw [qs11_3]; decide) (by rw [qs11_3]; rfl) rfl) ?_
      refine XS.go (s_aload rfl rfl) ?_
      replace hf := xi_none hf
      obtain ⟨qk15, hf⟩ := hf
      refine XS.go (s_getie rfl xf11_182 qk15.1 qk15.2 (by decide) rfl rfl) ?_
      cases hf
      exact XR.reti rfl rfl (fun hret => ⟨_, hret, ⟨rfl, rfl⟩, L8⟩)
    replace hf := xi_neg hf qs11_3
    by_cases qs11_4 : a3 = 4
    · replace hf := xi_pos hf qs11_4
      refine XS.go (s_tswI (tgt := 80) rfl (by rw [qs11_4]; decide) (by rw [qs11_4]; decide) (by rw [qs11_4]; rfl) rfl) ?_
      refine XS.go (s_aload rfl rfl) ?_
      replace hf := xi_none hf
      obtain ⟨qk16, hf⟩ := hf
      refine XS.go (s_getze rfl xf11_185 qk16.1 qk16.2 (by decide) rfl rfl) ?_
      refine r_if_eq (tgt := 92) rfl rfl (fun qc17 => ?_) (fun qc17 => ?_)
      · replace hf := xi_pos hf qc17
        refine XS.go (s_iconst (v := 0) rfl rfl) ?_
        cases hf
        exact XR.reti rfl rfl (fun hret => ⟨_, hret, ⟨rfl, rfl⟩, L8⟩)
      · replace hf := xi_neg hf qc17
        refine XS.go (s_iconst (v := 1) rfl rfl) ?_
        refine XS.go (s_goto (tgt := 93) rfl rfl) ?_
        cases hf
        exact XR.reti rfl rfl (fun hret => ⟨_, hret, ⟨rfl, rfl⟩, L8⟩)
    replace hf := xi_neg hf qs11_4
    have qs11_o : (a3).toInt < 0 ∨ 4 < (a3).toInt := by
      refine tsw_out 0 4 (by decide) ?_
      intro k h1 h2
      have z : k = 0 ∨ k = 1 ∨ k = 2 ∨ k = 3 ∨ k = 4 := by omega
      rcases z with rfl | rfl | rfl | rfl | rfl
      · exact qs11_0
      · exact qs11_1
      · exact qs11_2
      · exact qs11_3
      · exact qs11_4
    refine XS.go (s_tswO (tgt := 94) rfl qs11_o rfl) ?_
    refine XS.go (s_iconst (v := (-1)) rfl rfl) ?_
    cases hf
    exact XR.reti rfl rfl (fun hret => ⟨_, hret, ⟨rfl, rfl⟩, L8⟩)
def f_t_standard (a0 : Int32) (a1 : Int32) (h : XH) : Option (Int64 × XH) := (Option.bind (hr h 0 4) fun b1 => (if b1 < hz h ∧ hk h b1 = 9 then (Option.bind (hr h b1 1) fun b4 => (if b4 < hz h ∧ hk h b4 = 4 then (Option.bind (f_g_at b4 a0 h) fun r7 => (Option.bind (r7.1) fun b10 => (Option.bind (f_t_fieldOf b10 a1 r7.2) fun r12 => (Option.elim (r12.1) (some ((0 : Int64), r12.2)) fun b16 => (if b16 < hz r12.2 ∧ hk r12.2 b16 = 3 then (some ((hj r12.2 b16 8), r12.2)) else none))))) else none)) else none))
set_option maxRecDepth 20000 in
theorem kf_t_standard {l : Launch} {G : XG} {d : Nat} {a0 : Int32} {a1 : Int32} {h : XH} {r : Int64 × XH} (L0 : LY h) (hf : f_t_standard a0 a1 h = some r) : XC l G xEX11_standard (d + 2) [.ref 0, .int a0, .int a1] h (fun v h2 => (h2 = r.2 ∧ v = some (.long r.1)) ∧ LY r.2) := by
  refine XC.virt xvX11_standard (Nat.le_of_ble_eq_true rfl) ?_
  unfold f_t_standard at hf
  refine XR.norm (L3 := [some (.ref 0), some (.int a0), some (.int a1), none]) rfl ?_
  refine XS.go (s_aloadn rfl rfl rfl) ?_
  replace hf := xb_some hf
  obtain ⟨b1, qr2, hf⟩ := hf
  refine XS.go (s_getr rfl xf11_36 (LY.lt L0 (by decide)) (LY.k0 L0) (by decide) rfl qr2) ?_
  replace hf := xi_none hf
  obtain ⟨qk3, hf⟩ := hf
  replace hf := xb_some hf
  obtain ⟨b4, qr5, hf⟩ := hf
  refine XS.go (s_getr rfl xf11_116 qk3.1 qk3.2 (by decide) rfl qr5) ?_
  refine XS.go (s_iloadn rfl rfl rfl) ?_
  replace hf := xi_none hf
  obtain ⟨qk6, hf⟩ := hf
  replace hf := xb_some hf
  obtain ⟨r7, e8, hf⟩ := hf
  refine r_callv rfl xvX4_at xm11_134 (kf_g_at (d := d) L0 e8) qk6.1 qk6.2 (by decide) rfl rfl (dl0 (by decide)) (by decide) (Nat.le_of_ble_eq_true rfl) ?_
  rintro _ _ ⟨⟨rfl, rfl⟩, L9⟩
  refine XS.go (s_iloadn rfl rfl rfl) ?_
  replace hf := xb_some hf
  obtain ⟨b10, qo11, hf⟩ := hf
  try rw [qo11]
  replace hf := xb_some hf
  obtain ⟨r12, e13, hf⟩ := hf
  refine r_calls rfl xsX11_fieldOf xm11_167 (kf_t_fieldOf (d := d) L9 e13) rfl rfl (dl (by decide)) (by decide) (Nat.le_of_ble_eq_true rfl) ?_
  rintro _ _ ⟨⟨rfl, rfl⟩, L14⟩
  refine XS.go (XS.lcl (L3 := [some (.ref 0), some (.int a0), some (.int a1), some (va_rf r12.1)]) (s_astorenO rfl rfl (Nat.le_of_ble_eq_true rfl)) rfl) ?_
  refine XS.go (s_aloadnO rfl rfl rfl) ?_
  refine r_ifnonnull (tgt := 24) rfl rfl (fun qn15 => ?_) (fun b16 qn15 => ?_)
  · replace hf := xo_none hf qn15
    try rw [qn15]
    refine XS.go (s_lconst (v := 0) rfl rfl) ?_
    refine XS.go (s_goto (tgt := 28) rfl rfl) ?_
    cases hf
    exact XR.retl rfl rfl (fun hret => ⟨_, hret, ⟨rfl, rfl⟩, L14⟩)
  · replace hf := xo_some hf qn15
    try rw [qn15]
    refine XS.go (s_aloadn rfl rfl rfl) ?_
    replace hf := xi_none hf
    obtain ⟨qk17, hf⟩ := hf
    refine XS.go (s_getje rfl xf11_193 qk17.1 qk17.2 (by decide) rfl rfl) ?_
    cases hf
    exact XR.retl rfl rfl (fun hret => ⟨_, hret, ⟨rfl, rfl⟩, L14⟩)
def f_t_find (a0 : Int32) (a1 : Int32) (h : XH) : Option (Int32 × XH) := (Option.bind (f_t_structOrTable a0 a1 (hsi h 1 1 0)) fun r1 => (Option.elim (r1.1) (some ((-1), r1.2)) fun b5 => (if 16 < (hi h 1 1) then (some ((-1), r1.2)) else (Option.bind (f_b_hasZero 1 (hi h 1 1) r1.2) fun r7 => (if r7.1 = 0 then (Option.bind (f_b_packed 1 0 (hi h 1 1) r7.2) fun r11 => (Option.bind (f_b_packed 1 8 (hi h 1 1) r11.2) fun r14 => (if b5 < hz r14.2 ∧ hk r14.2 b5 = 2 then (Option.bind (f_d_fieldNamed b5 r11.1 r14.1 r14.2) fun r18 => (some (r18.1, r18.2))) else none))) else (some ((-1), r7.2)))))))
set_option maxRecDepth 20000 in
theorem kf_t_find {l : Launch} {G : XG} {d : Nat} {a0 : Int32} {a1 : Int32} {h : XH} {r : Int32 × XH} (L0 : LY h) (hf : f_t_find a0 a1 h = some r) : XC l G xEX11_find (d + 2) [.ref 0, .int a0, .int a1] h (fun v h2 => (h2 = r.2 ∧ v = some (.int r.1)) ∧ LY r.2) := by
  refine XC.virt xvX11_find (Nat.le_of_ble_eq_true rfl) ?_
  unfold f_t_find at hf
  refine XR.norm (L3 := [some (.ref 0), some (.int a0), some (.int a1), none, none]) rfl ?_
  refine XS.go (s_aloadn rfl rfl rfl) ?_
  refine XS.go (s_getr rfl xf11_10 (LY.lt L0 (by decide)) (LY.k0 L0) (by decide) rfl (LY.r0_0 L0)) ?_
  refine XS.go (s_getie rfl xf11_73 (LY.lt L0 (by decide)) (LY.k1 L0) (by decide) rfl rfl) ?_
  refine XS.go (XS.lcl (L3 := [some (.ref 0), some (.int a0), some (.int a1), some (.int (hi h 1 1)), none]) (s_istoren rfl rfl (Nat.le_of_ble_eq_true rfl)) rfl) ?_
  refine XS.go (s_aloadn rfl rfl rfl) ?_
  refine XS.go (s_getr rfl xf11_10 (LY.lt L0 (by decide)) (LY.k0 L0) (by decide) rfl (LY.r0_0 L0)) ?_
  refine XS.go (s_iconst (v := 0) rfl rfl) ?_
  refine XS.go (s_puti rfl xf11_73 (LY.lt L0 (by decide)) (LY.k1 L0) (by decide) rfl (Or.inl rfl)) ?_
  refine XS.go (s_aloadn rfl rfl rfl) ?_
  refine XS.go (s_iloadn rfl rfl rfl) ?_
  refine XS.go (s_iloadn rfl rfl rfl) ?_
  replace hf := xb_some hf
  obtain ⟨r1, e2, hf⟩ := hf
  refine r_callv rfl xvX11_structOrTable xm11_163 (kf_t_structOrTable (d := d) (by simp only [LY_si, LY_sj]; exact L0) e2) (LY.lt (by simp only [LY_si, LY_sj]; exact L0) (by decide)) (LY.k0 (by simp only [LY_si, LY_sj]; exact L0)) (by decide) rfl rfl (dl (by decide)) (by decide) (Nat.le_of_ble_eq_true rfl) ?_
  rintro _ _ ⟨⟨rfl, rfl⟩, L3⟩
  refine XS.go (XS.lcl (L3 := [some (.ref 0), some (.int a0), some (.int a1), some (.int (hi h 1 1)), some (va_rf r1.1)]) (s_astoreO rfl (Nat.le_of_ble_eq_true rfl)) rfl) ?_
  refine XS.go (s_aloadO rfl rfl) ?_
  refine r_ifnull (tgt := 46) rfl rfl (fun qn4 => ?_) (fun b5 qn4 => ?_)
  · replace hf := xo_none hf qn4
    try rw [qn4]
    refine XS.go (s_iconst (v := (-1)) rfl rfl) ?_
    cases hf
    exact XR.reti rfl rfl (fun hret => ⟨_, hret, ⟨rfl, rfl⟩, L3⟩)
  · replace hf := xo_some hf qn4
    try rw [qn4]
    refine XS.go (s_iloadn rfl rfl rfl) ?_
    refine XS.go (s_bipush (v := 16) rfl rfl) ?_
    refine r_icmp_gt (tgt := 46) rfl rfl (fun qc6 => ?_) (fun qc6 => ?_)
    · replace hf := xi_pos hf qc6
      refine XS.go (s_iconst (v := (-1)) rfl rfl) ?_
      cases hf
      exact XR.reti rfl rfl (fun hret => ⟨_, hret, ⟨rfl, rfl⟩, L3⟩)
    · replace hf := xi_neg hf qc6
      refine XS.go (s_aloadn rfl rfl rfl) ?_
      refine XS.go (s_getr rfl xf11_10 (LY.lt L3 (by decide)) (LY.k0 L3) (by decide) rfl (LY.r0_0 L3)) ?_
      refine XS.go (s_iloadn rfl rfl rfl) ?_
      replace hf := xb_some hf
      obtain ⟨r7, e8, hf⟩ := hf
      refine r_callv rfl xvX1_hasZero xm11_197 (kf_b_hasZero (d := d) L3 e8) (LY.lt L3 (by decide)) (LY.k1 L3) (by decide) rfl rfl (dl (by decide)) (by decide) (Nat.le_of_ble_eq_true rfl) ?_
      rintro _ _ ⟨⟨rfl, rfl⟩, L9⟩
      refine r_if_eq (tgt := 48) rfl rfl (fun qc10 => ?_) (fun qc10 => ?_)
      · replace hf := xi_pos hf qc10
        refine XS.go (s_aload rfl rfl) ?_
        refine XS.go (s_aloadn rfl rfl rfl) ?_
        refine XS.go (s_getr rfl xf11_10 (LY.lt L9 (by decide)) (LY.k0 L9) (by decide) rfl (LY.r0_0 L9)) ?_
        refine XS.go (s_iconst (v := 0) rfl rfl) ?_
        refine XS.go (s_iloadn rfl rfl rfl) ?_
        replace hf := xb_some hf
        obtain ⟨r11, e12, hf⟩ := hf
        refine r_callv rfl xvX1_packed xm11_201 (kf_b_packed (d := d) L9 e12) (LY.lt L9 (by decide)) (LY.k1 L9) (by decide) rfl rfl (dl (by decide)) (by decide) (Nat.le_of_ble_eq_true rfl) ?_
        rintro _ _ ⟨⟨rfl, rfl⟩, L13⟩
        refine XS.go (s_aloadn rfl rfl rfl) ?_
        refine XS.go (s_getr rfl xf11_10 (LY.lt L13 (by decide)) (LY.k0 L13) (by decide) rfl (LY.r0_0 L13)) ?_
        refine XS.go (s_bipush (v := 8) rfl rfl) ?_
        refine XS.go (s_iloadn rfl rfl rfl) ?_
        replace hf := xb_some hf
        obtain ⟨r14, e15, hf⟩ := hf
        refine r_callv rfl xvX1_packed xm11_201 (kf_b_packed (d := d) L13 e15) (LY.lt L13 (by decide)) (LY.k1 L13) (by decide) rfl rfl (dl (by decide)) (by decide) (Nat.le_of_ble_eq_true rfl) ?_
        rintro _ _ ⟨⟨rfl, rfl⟩, L16⟩
        replace hf := xi_none hf
        obtain ⟨qk17, hf⟩ := hf
        replace hf := xb_some hf
        obtain ⟨r18, e19, hf⟩ := hf
        refine r_callv rfl xvX2_fieldNamed xm11_205 (kf_d_fieldNamed (d := d) L16 e19) qk17.1 qk17.2 (by decide) rfl rfl (dl0 (by decide)) (by decide) (Nat.le_of_ble_eq_true rfl) ?_
        rintro _ _ ⟨⟨rfl, rfl⟩, L20⟩
        cases hf
        exact XR.reti rfl rfl (fun hret => ⟨_, hret, ⟨rfl, rfl⟩, L20⟩)
      · replace hf := xi_neg hf qc10
        refine XS.go (s_iconst (v := (-1)) rfl rfl) ?_
        cases hf
        exact XR.reti rfl rfl (fun hret => ⟨_, hret, ⟨rfl, rfl⟩, L9⟩)
def f_t_push (a0 : Int64) (h : XH) : Option (Int32 × XH) := (Option.bind (f_w_add 5 a0 h) fun r1 => (some (r1.1, r1.2)))
set_option maxRecDepth 20000 in
theorem kf_t_push {l : Launch} {G : XG} {d : Nat} {a0 : Int64} {h : XH} {r : Int32 × XH} (L0 : LY h) (hf : f_t_push a0 h = some r) : XC l G xEX11_push (d + 1) [.ref 0, .long a0] h (fun v h2 => (h2 = r.2 ∧ v = some (.int r.1)) ∧ LY r.2) := by
  refine XC.virt xvX11_push (Nat.le_of_ble_eq_true rfl) ?_
  unfold f_t_push at hf
  refine XR.norm (L3 := [some (.ref 0), some (.long a0), none]) rfl ?_
  refine XS.go (s_aloadn rfl rfl rfl) ?_
  refine XS.go (s_getr rfl xf11_22 (LY.lt L0 (by decide)) (LY.k0 L0) (by decide) rfl (LY.r0_2 L0)) ?_
  refine XS.go (s_lloadn rfl rfl rfl) ?_
  replace hf := xb_some hf
  obtain ⟨r1, e2, hf⟩ := hf
  refine r_callv rfl xvX10_add xm11_209 (kf_w_add (d := d) L0 e2) (LY.lt L0 (by decide)) (LY.k5 L0) (by decide) rfl rfl (dl0 (by decide)) (by decide) (Nat.le_of_ble_eq_true rfl) ?_
  rintro _ _ ⟨⟨rfl, rfl⟩, L3⟩
  cases hf
  exact XR.reti rfl rfl (fun hret => ⟨_, hret, ⟨rfl, rfl⟩, L3⟩)
def f_t_text (h : XH) : Option (Sum Int32 Nat × XH) := (Option.bind (f_u_isOpen (hsi h 1 1 0)) fun r1 => (if r1.1 = 0 then (Option.bind (f_u_addText 1 (hi h 1 1) r1.2) fun r5 => (if ¬ r5.1 = (-1) then (some (Sum.inl r5.1, r5.2)) else (if hz r5.2 < 1000000 then (some (Sum.inr 2, hthr r5.2)) else none))) else (if hz r1.2 < 1000000 then (some (Sum.inr 1, hthr r1.2)) else none)))
set_option maxRecDepth 20000 in
theorem kf_t_text {l : Launch} {G : XG} {d : Nat} {h : XH} {r : Sum Int32 Nat × XH} (hl : l.stackTraces = false) (L0 : LY h) (hf : f_t_text h = some r) : (∃ x, r.1 = Sum.inl x ∧ XC l G xEX11_text (d + 6) [.ref 0] h (fun v h2 => (h2 = r.2 ∧ v = some (.int x)) ∧ LY r.2)) ∨ ∃ k E, r.1 = Sum.inr k ∧ xXs[k]? = some E ∧ XCx l G xEX11_text (d + 6) [.ref 0] h E (fun h2 => h2 = r.2 ∧ LY r.2) := by
  refine xe_of (R := Int32) (V := fun x => some (.int x)) hl xvX11_text rfl (Nat.le_of_ble_eq_true rfl) (by omega) ?_
  unfold f_t_text at hf
  refine XR.norm (L3 := [some (.ref 0), none, none]) rfl ?_
  refine XS.go (s_aloadn rfl rfl rfl) ?_
  refine XS.go (s_getr rfl xf11_10 (LY.lt L0 (by decide)) (LY.k0 L0) (by decide) rfl (LY.r0_0 L0)) ?_
  refine XS.go (s_getie rfl xf11_73 (LY.lt L0 (by decide)) (LY.k1 L0) (by decide) rfl rfl) ?_
  refine XS.go (XS.lcl (L3 := [some (.ref 0), some (.int (hi h 1 1)), none]) (s_istoren rfl rfl (Nat.le_of_ble_eq_true rfl)) rfl) ?_
  refine XS.go (s_aloadn rfl rfl rfl) ?_
  refine XS.go (s_getr rfl xf11_10 (LY.lt L0 (by decide)) (LY.k0 L0) (by decide) rfl (LY.r0_0 L0)) ?_
  refine XS.go (s_iconst (v := 0) rfl rfl) ?_
  refine XS.go (s_puti rfl xf11_73 (LY.lt L0 (by decide)) (LY.k1 L0) (by decide) rfl (Or.inl rfl)) ?_
  refine XS.go (s_aloadn rfl rfl rfl) ?_
  refine XS.go (s_getr rfl xf11_46 (LY.lt (by simp only [LY_si, LY_sj]; exact L0) (by decide)) (LY.k0 (by simp only [LY_si, LY_sj]; exact L0)) (by decide) rfl (LY.r0_6 (by simp only [LY_si, LY_sj]; exact L0))) ?_
  replace hf := xb_some hf
  obtain ⟨r1, e2, hf⟩ := hf
  refine r_callv rfl xvX0_isOpen xm11_213 (kf_u_isOpen (d := d) (by simp only [LY_si, LY_sj]; exact L0) e2) (LY.lt (by simp only [LY_si, LY_sj]; exact L0) (by decide)) (LY.k1244 (by simp only [LY_si, LY_sj]; exact L0)) (by decide) rfl rfl (dl0 (by decide)) (by decide) (Nat.le_of_ble_eq_true rfl) ?_
  rintro _ _ ⟨⟨rfl, rfl⟩, L3⟩
  refine r_if_eq (tgt := 36) rfl rfl (fun qc4 => ?_) (fun qc4 => ?_)
  · replace hf := xi_pos hf qc4
    refine XS.go (s_aloadn rfl rfl rfl) ?_
    refine XS.go (s_getr rfl xf11_46 (LY.lt L3 (by decide)) (LY.k0 L3) (by decide) rfl (LY.r0_6 L3)) ?_
    refine XS.go (s_aloadn rfl rfl rfl) ?_
    refine XS.go (s_getr rfl xf11_10 (LY.lt L3 (by decide)) (LY.k0 L3) (by decide) rfl (LY.r0_0 L3)) ?_
    refine XS.go (s_iloadn rfl rfl rfl) ?_
    replace hf := xb_some hf
    obtain ⟨r5, e6, hf⟩ := hf
    refine r_callv rfl xvX0_addText xm11_221 (kf_u_addText (d := d) L3 e6) (LY.lt L3 (by decide)) (LY.k1244 L3) (by decide) rfl rfl (dl (by decide)) (by decide) (Nat.le_of_ble_eq_true rfl) ?_
    rintro _ _ ⟨⟨rfl, rfl⟩, L7⟩
    refine XS.go (XS.lcl (L3 := [some (.ref 0), some (.int (hi h 1 1)), some (.int r5.1)]) (s_istoren rfl rfl (Nat.le_of_ble_eq_true rfl)) rfl) ?_
    refine XS.go (s_iloadn rfl rfl rfl) ?_
    refine XS.go (s_iconst (v := (-1)) rfl rfl) ?_
    refine r_icmp_ne (tgt := 64) rfl rfl (fun qc8 => ?_) (fun qc8 => ?_)
    · replace hf := xi_pos hf qc8
      refine XS.go (s_iloadn rfl rfl rfl) ?_
      cases hf
      exact XR.reti rfl rfl (fun hret => Or.inl ⟨_, hret, ⟨rfl, ⟨_, rfl, rfl⟩⟩, L7⟩)
    · replace hf := xi_neg hf qc8
      replace hf := xi_none hf
      obtain ⟨qk9, hf⟩ := hf
      cases hf
      exact XR.here (Or.inr ⟨2, _, rfl, rfl, ⟨225, 227, 229, 20, _, rfl, xthr2, ⟨⟨rfl, rfl, rfl⟩, Or.inl ⟨rfl, rfl, rfl⟩⟩, qk9⟩, rfl, LY.new L7 qk9⟩)
  · replace hf := xi_neg hf qc4
    replace hf := xi_none hf
    obtain ⟨qk10, hf⟩ := hf
    cases hf
    exact XR.here (Or.inr ⟨1, _, rfl, rfl, ⟨216, 218, 220, 19, _, rfl, xthr1, ⟨⟨rfl, rfl, rfl⟩, Or.inl ⟨rfl, rfl, rfl⟩⟩, qk10⟩, rfl, LY.new L3 qk10⟩)
def s_t_areLeaves_16 (K16 : Nat → Int32 → Int32 → XH → Option (Int32 × XH)) (x1 : Nat) (x2 : Int32) (x3 : Int32) (h : XH) : Option (Int32 × XH) := (if x2 ≤ x3 then (some (1, h)) else (if x1 < hz h ∧ hk h x1 = 2 then (if ¬ (hi h x1 11) = 0 then (Option.bind (f_d_leafScalar x1 (x3 - x3 / (hi h x1 11) * (hi h x1 11)) h) fun r4 => (Option.bind (f_w_at 5 x3 r4.2) fun r7 => (Option.bind (f_t_isValue r4.1 r7.1 r7.2) fun r10 => (if ¬ r10.1 = 0 then (K16 x1 x2 (x3 + 1) r10.2) else (some (0, r10.2)))))) else none) else none))
set_option maxRecDepth 20000 in
theorem ks_t_areLeaves_16 {l : Launch} {G : XG} {d : Nat} {K16 : Nat → Int32 → Int32 → XH → Option (Int32 × XH)} {x1 : Nat} {x2 : Int32} {x3 : Int32} {h : XH} {r : Int32 × XH} (hK16 : ∀ (x1 : Nat) (x2 : Int32) (x3 : Int32) (h : XH), LY h → K16 x1 x2 x3 h = some r → XR l G xEX11_areLeaves (d + 2) (16, [some (.ref 0), some (.ref x1), some (.int x2), some (.int x3)], [], h) (fun C => ∃ v, xRet xEX11_areLeaves C v ∧ (C.2.2.2 = r.2 ∧ v = some (.int r.1)) ∧ LY r.2)) (L0 : LY h) (hf : s_t_areLeaves_16 K16 x1 x2 x3 h = some r) : XR l G xEX11_areLeaves (d + 2) (16, [some (.ref 0), some (.ref x1), some (.int x2), some (.int x3)], [], h) (fun C => ∃ v, xRet xEX11_areLeaves C v ∧ (C.2.2.2 = r.2 ∧ v = some (.int r.1)) ∧ LY r.2) := by
  unfold s_t_areLeaves_16 at hf
  refine XS.go (s_iloadn rfl rfl rfl) ?_
  refine XS.go (s_iloadn rfl rfl rfl) ?_
  refine r_icmp_ge (tgt := 53) rfl rfl (fun qc1 => ?_) (fun qc1 => ?_)
  · replace hf := xi_pos hf qc1
    refine XS.go (s_iconst (v := 1) rfl rfl) ?_
    cases hf
    exact XR.retz rfl rfl (by decide) (fun hret => ⟨_, hret, ⟨rfl, rfl⟩, L0⟩)
  · replace hf := xi_neg hf qc1
    refine XS.go (s_aloadn rfl rfl rfl) ?_
    refine XS.go (s_iloadn rfl rfl rfl) ?_
    refine XS.go (s_aloadn rfl rfl rfl) ?_
    replace hf := xi_none hf
    obtain ⟨qk2, hf⟩ := hf
    refine XS.go (s_getie rfl xf11_255 qk2.1 qk2.2 (by decide) rfl rfl) ?_
    replace hf := xi_none hf
    obtain ⟨qk3, hf⟩ := hf
    refine XS.go (s_irem qk3 rfl) ?_
    replace hf := xb_some hf
    obtain ⟨r4, e5, hf⟩ := hf
    refine r_callv rfl xvX2_leafScalar xm11_272 (kf_d_leafScalar (d := d) L0 e5) qk2.1 qk2.2 (by decide) rfl rfl (dl0 (by decide)) (by decide) (Nat.le_of_ble_eq_true rfl) ?_
    rintro _ _ ⟨⟨rfl, rfl⟩, L6⟩
    refine XS.go (s_aloadn rfl rfl rfl) ?_
    refine XS.go (s_getr rfl xf11_22 (LY.lt L6 (by decide)) (LY.k0 L6) (by decide) rfl (LY.r0_2 L6)) ?_
    refine XS.go (s_iloadn rfl rfl rfl) ?_
    replace hf := xb_some hf
    obtain ⟨r7, e8, hf⟩ := hf
    refine r_callv rfl xvX10_at xm11_261 (kf_w_at (d := d) L6 e8) (LY.lt L6 (by decide)) (LY.k5 L6) (by decide) rfl rfl (dl0 (by decide)) (by decide) (Nat.le_of_ble_eq_true rfl) ?_
    rintro _ _ ⟨⟨rfl, rfl⟩, L9⟩
    replace hf := xb_some hf
    obtain ⟨r10, e11, hf⟩ := hf
    refine r_calls rfl xsX11_isValue xm11_264 (kf_t_isValue (d := d) L9 e11) rfl rfl (dl (by decide)) (by decide) (Nat.le_of_ble_eq_true rfl) ?_
    rintro _ _ ⟨⟨rfl, rfl⟩, L12⟩
    refine r_if_ne (tgt := 47) rfl rfl (fun qc13 => ?_) (fun qc13 => ?_)
    · replace hf := xi_pos hf qc13
      refine XS.go (XS.lcl (L3 := [some (.ref 0), some (.ref x1), some (.int x2), some (.int (x3 + 1))]) (s_inc rfl rfl (Nat.le_of_ble_eq_true rfl)) rfl) ?_
      refine XS.go (s_goto (tgt := 16) rfl rfl) ?_
      exact XR.forget (L2 := [some (.ref 0), some (.ref x1), some (.int x2), some (.int (x3 + 1))]) ⟨rfl, ⟨rfl, ⟨rfl, ⟨rfl, trivial⟩⟩⟩⟩ (hK16 x1 x2 (x3 + 1) _ L12 hf)
    · replace hf := xi_neg hf qc13
      refine XS.go (s_iconst (v := 0) rfl rfl) ?_
      cases hf
      exact XR.retz rfl rfl (by decide) (fun hret => ⟨_, hret, ⟨rfl, rfl⟩, L12⟩)
def b_t_areLeaves_16 : Nat → Nat → Int32 → Int32 → XH → Option (Int32 × XH)
  | 0, _, _, _, _ => none
  | n + 1, x1, x2, x3, h => s_t_areLeaves_16 (b_t_areLeaves_16 n) x1 x2 x3 h
theorem kb_t_areLeaves_16 {l : Launch} {G : XG} {d : Nat} {n : Nat} {x1 : Nat} {x2 : Int32} {x3 : Int32} {h : XH} {r : Int32 × XH} (L0 : LY h) (hf : b_t_areLeaves_16 n x1 x2 x3 h = some r) : XR l G xEX11_areLeaves (d + 2) (16, [some (.ref 0), some (.ref x1), some (.int x2), some (.int x3)], [], h) (fun C => ∃ v, xRet xEX11_areLeaves C v ∧ (C.2.2.2 = r.2 ∧ v = some (.int r.1)) ∧ LY r.2) := by
  induction n generalizing x1 x2 x3 h with
  | zero => cases hf
  | succ n ih => exact ks_t_areLeaves_16 (fun x1 x2 x3 h L0 hf => ih (h := h) (x1 := x1) (x2 := x2) (x3 := x3) L0 hf) L0 hf
def f_t_areLeaves (a0 : Nat) (a1 : Int32) (h : XH) : Option (Int32 × XH) := (if a0 < hz h ∧ hk h a0 = 2 then (if 1 ≤ (hi h a0 11) then (b_t_areLeaves_16 100000 a0 a1 0 h) else (some (0, h))) else none)
set_option maxRecDepth 20000 in
theorem kf_t_areLeaves {l : Launch} {G : XG} {d : Nat} {a0 : Nat} {a1 : Int32} {h : XH} {r : Int32 × XH} (L0 : LY h) (hf : f_t_areLeaves a0 a1 h = some r) : XC l G xEX11_areLeaves (d + 2) [.ref 0, .ref a0, .int a1] h (fun v h2 => (h2 = r.2 ∧ v = some (.int r.1)) ∧ LY r.2) := by
  refine XC.virt xvX11_areLeaves (Nat.le_of_ble_eq_true rfl) ?_
  unfold f_t_areLeaves at hf
  refine XR.norm (L3 := [some (.ref 0), some (.ref a0), some (.int a1), none]) rfl ?_
  refine XS.go (s_aloadn rfl rfl rfl) ?_
  refine XS.go (s_ifnull_r rfl) ?_
  refine XS.go (s_aloadn rfl rfl rfl) ?_
  replace hf := xi_none hf
  obtain ⟨qk14, hf⟩ := hf
  refine XS.go (s_getie rfl xf11_255 qk14.1 qk14.2 (by decide) rfl rfl) ?_
  refine XS.go (s_iconst (v := 1) rfl rfl) ?_
  refine r_icmp_ge (tgt := 14) rfl rfl (fun qc15 => ?_) (fun qc15 => ?_)
  · replace hf := xi_pos hf qc15
    refine XS.go (s_iconst (v := 0) rfl rfl) ?_
    refine XS.go (XS.lcl (L3 := [some (.ref 0), some (.ref a0), some (.int a1), some (.int 0)]) (s_istoren rfl rfl (Nat.le_of_ble_eq_true rfl)) rfl) ?_
    exact XR.forget (L2 := [some (.ref 0), some (.ref a0), some (.int a1), some (.int 0)]) ⟨rfl, ⟨rfl, ⟨rfl, ⟨rfl, trivial⟩⟩⟩⟩ (kb_t_areLeaves_16 L0 hf)
  · replace hf := xi_neg hf qc15
    refine XS.go (s_iconst (v := 0) rfl rfl) ?_
    cases hf
    exact XR.retz rfl rfl (by decide) (fun hret => ⟨_, hret, ⟨rfl, rfl⟩, L0⟩)
def b_t_areElements_80 (K37 : Int32 → Int32 → Int32 → Int32 → Int32 → XH → Option (Int32 × XH)) (x1 : Int32) (x2 : Int32) (x3 : Int32) (x4 : Int32) (x5 : Int32) (y0 : Int32) (h : XH) : Option (Int32 × XH) := (if ¬ y0 = 0 then (K37 x1 x2 x3 x4 (x5 + 1) h) else (some (0, h)))
set_option maxRecDepth 20000 in
theorem kb_t_areElements_80 {l : Launch} {G : XG} {d : Nat} {K37 : Int32 → Int32 → Int32 → Int32 → Int32 → XH → Option (Int32 × XH)} {x1 : Int32} {x2 : Int32} {x3 : Int32} {x4 : Int32} {x5 : Int32} {y0 : Int32} {h : XH} {r : Int32 × XH} (hK37 : ∀ (x1 : Int32) (x2 : Int32) (x3 : Int32) (x4 : Int32) (x5 : Int32) (h : XH), LY h → K37 x1 x2 x3 x4 x5 h = some r → XR l G xEX11_areElements (d + 3) (37, [some (.ref 0), some (.int x1), some (.int x2), some (.int x3), some (.int x4), some (.int x5), none, none, none], [], h) (fun C => ∃ v, xRet xEX11_areElements C v ∧ (C.2.2.2 = r.2 ∧ v = some (.int r.1)) ∧ LY r.2)) (L0 : LY h) (hf : b_t_areElements_80 K37 x1 x2 x3 x4 x5 y0 h = some r) : XR l G xEX11_areElements (d + 3) (80, [some (.ref 0), some (.int x1), some (.int x2), some (.int x3), some (.int x4), some (.int x5), none, none, none], [(.int y0)], h) (fun C => ∃ v, xRet xEX11_areElements C v ∧ (C.2.2.2 = r.2 ∧ v = some (.int r.1)) ∧ LY r.2) := by
  unfold b_t_areElements_80 at hf
  refine XS.go (XS.lcl (L3 := [some (.ref 0), some (.int x1), some (.int x2), some (.int x3), some (.int x4), some (.int x5), none, none, some (.int y0)]) (s_istore rfl (Nat.le_of_ble_eq_true rfl)) rfl) ?_
  refine XS.go (s_iload rfl rfl) ?_
  refine r_if_ne (tgt := 89) rfl rfl (fun qc1 => ?_) (fun qc1 => ?_)
  · replace hf := xi_pos hf qc1
    refine XS.go (XS.lcl (L3 := [some (.ref 0), some (.int x1), some (.int x2), some (.int x3), some (.int x4), some (.int (x5 + 1)), none, none, some (.int y0)]) (s_inc rfl rfl (Nat.le_of_ble_eq_true rfl)) rfl) ?_
    refine XS.go (s_goto (tgt := 37) rfl rfl) ?_
    exact XR.forget (L2 := [some (.ref 0), some (.int x1), some (.int x2), some (.int x3), some (.int x4), some (.int (x5 + 1)), none, none, none]) ⟨rfl, ⟨rfl, ⟨rfl, ⟨rfl, ⟨rfl, ⟨rfl, trivial⟩⟩⟩⟩⟩⟩ (hK37 x1 x2 x3 x4 (x5 + 1) _ L0 hf)
  · replace hf := xi_neg hf qc1
    refine XS.go (s_iconst (v := 0) rfl rfl) ?_
    cases hf
    exact XR.retz rfl rfl (by decide) (fun hret => ⟨_, hret, ⟨rfl, rfl⟩, L0⟩)
def s_t_areElements_37 (K37 : Int32 → Int32 → Int32 → Int32 → Int32 → XH → Option (Int32 × XH)) (x1 : Int32) (x2 : Int32) (x3 : Int32) (x4 : Int32) (x5 : Int32) (h : XH) : Option (Int32 × XH) := (if x3 ≤ x5 then (some (1, h)) else (Option.bind (f_w_at 5 x5 h) fun r3 => (if ¬ x1 = 0 then (Option.bind (f_u_isThing r3.1 x1 x4 (-1) r3.2) fun r7 => (b_t_areElements_80 K37 x1 x2 x3 x4 x5 r7.1 r7.2)) else (Option.bind (f_t_isValue x2 r3.1 r3.2) fun r10 => (b_t_areElements_80 K37 x1 x2 x3 x4 x5 r10.1 r10.2)))))
set_option maxRecDepth 20000 in
theorem ks_t_areElements_37 {l : Launch} {G : XG} {d : Nat} {K37 : Int32 → Int32 → Int32 → Int32 → Int32 → XH → Option (Int32 × XH)} {x1 : Int32} {x2 : Int32} {x3 : Int32} {x4 : Int32} {x5 : Int32} {h : XH} {r : Int32 × XH} (hK37 : ∀ (x1 : Int32) (x2 : Int32) (x3 : Int32) (x4 : Int32) (x5 : Int32) (h : XH), LY h → K37 x1 x2 x3 x4 x5 h = some r → XR l G xEX11_areElements (d + 3) (37, [some (.ref 0), some (.int x1), some (.int x2), some (.int x3), some (.int x4), some (.int x5), none, none, none], [], h) (fun C => ∃ v, xRet xEX11_areElements C v ∧ (C.2.2.2 = r.2 ∧ v = some (.int r.1)) ∧ LY r.2)) (L0 : LY h) (hf : s_t_areElements_37 K37 x1 x2 x3 x4 x5 h = some r) : XR l G xEX11_areElements (d + 3) (37, [some (.ref 0), some (.int x1), some (.int x2), some (.int x3), some (.int x4), some (.int x5), none, none, none], [], h) (fun C => ∃ v, xRet xEX11_areElements C v ∧ (C.2.2.2 = r.2 ∧ v = some (.int r.1)) ∧ LY r.2) := by
  unfold s_t_areElements_37 at hf
  refine XS.go (s_iload rfl rfl) ?_
  refine XS.go (s_iloadn rfl rfl rfl) ?_
  refine r_icmp_ge (tgt := 95) rfl rfl (fun qc2 => ?_) (fun qc2 => ?_)
  · replace hf := xi_pos hf qc2
    refine XS.go (s_iconst (v := 1) rfl rfl) ?_
    cases hf
    exact XR.retz rfl rfl (by decide) (fun hret => ⟨_, hret, ⟨rfl, rfl⟩, L0⟩)
  · replace hf := xi_neg hf qc2
    refine XS.go (s_aloadn rfl rfl rfl) ?_
    refine XS.go (s_getr rfl xf11_22 (LY.lt L0 (by decide)) (LY.k0 L0) (by decide) rfl (LY.r0_2 L0)) ?_
    refine XS.go (s_iload rfl rfl) ?_
    replace hf := xb_some hf
    obtain ⟨r3, e4, hf⟩ := hf
    refine r_callv rfl xvX10_at xm11_261 (kf_w_at (d := d) L0 e4) (LY.lt L0 (by decide)) (LY.k5 L0) (by decide) rfl rfl (dl0 (by decide)) (by decide) (Nat.le_of_ble_eq_true rfl) ?_
    rintro _ _ ⟨⟨rfl, rfl⟩, L5⟩
    refine XS.go (XS.lcl (L3 := [some (.ref 0), some (.int x1), some (.int x2), some (.int x3), some (.int x4), some (.int x5), some (.long r3.1), none, none]) (s_lstore rfl (Nat.le_of_ble_eq_true rfl)) rfl) ?_
    refine XS.go (s_iloadn rfl rfl rfl) ?_
    refine r_if_ne (tgt := 67) rfl rfl (fun qc6 => ?_) (fun qc6 => ?_)
    · replace hf := xi_pos hf qc6
      refine XS.go (s_aloadn rfl rfl rfl) ?_
      refine XS.go (s_getr rfl xf11_46 (LY.lt L5 (by decide)) (LY.k0 L5) (by decide) rfl (LY.r0_6 L5)) ?_
      refine XS.go (s_lload rfl rfl) ?_
      refine XS.go (s_iloadn rfl rfl rfl) ?_
      refine XS.go (s_iload rfl rfl) ?_
      refine XS.go (s_iconst (v := (-1)) rfl rfl) ?_
      replace hf := xb_some hf
      obtain ⟨r7, e8, hf⟩ := hf
      refine r_callv rfl xvX0_isThing xm11_268 (kf_u_isThing (d := d) L5 e8) (LY.lt L5 (by decide)) (LY.k1244 L5) (by decide) rfl rfl (dl0 (by decide)) (by decide) (Nat.le_of_ble_eq_true rfl) ?_
      rintro _ _ ⟨⟨rfl, rfl⟩, L9⟩
      exact XR.forget (L2 := [some (.ref 0), some (.int x1), some (.int x2), some (.int x3), some (.int x4), some (.int x5), none, none, none]) ⟨rfl, ⟨rfl, ⟨rfl, ⟨rfl, ⟨rfl, ⟨rfl, trivial⟩⟩⟩⟩⟩⟩ (kb_t_areElements_80 hK37 L9 hf)
    · replace hf := xi_neg hf qc6
      refine XS.go (s_iloadn rfl rfl rfl) ?_
      refine XS.go (s_lload rfl rfl) ?_
      replace hf := xb_some hf
      obtain ⟨r10, e11, hf⟩ := hf
      refine r_calls rfl xsX11_isValue xm11_264 (kf_t_isValue (d := d) L5 e11) rfl rfl (dl (by decide)) (by decide) (Nat.le_of_ble_eq_true rfl) ?_
      rintro _ _ ⟨⟨rfl, rfl⟩, L12⟩
      refine XS.go (s_goto (tgt := 80) rfl rfl) ?_
      exact XR.forget (L2 := [some (.ref 0), some (.int x1), some (.int x2), some (.int x3), some (.int x4), some (.int x5), none, none, none]) ⟨rfl, ⟨rfl, ⟨rfl, ⟨rfl, ⟨rfl, ⟨rfl, trivial⟩⟩⟩⟩⟩⟩ (kb_t_areElements_80 hK37 L12 hf)
def b_t_areElements_37 : Nat → Int32 → Int32 → Int32 → Int32 → Int32 → XH → Option (Int32 × XH)
  | 0, _, _, _, _, _, _ => none
  | n + 1, x1, x2, x3, x4, x5, h => s_t_areElements_37 (b_t_areElements_37 n) x1 x2 x3 x4 x5 h
theorem kb_t_areElements_37 {l : Launch} {G : XG} {d : Nat} {n : Nat} {x1 : Int32} {x2 : Int32} {x3 : Int32} {x4 : Int32} {x5 : Int32} {h : XH} {r : Int32 × XH} (L0 : LY h) (hf : b_t_areElements_37 n x1 x2 x3 x4 x5 h = some r) : XR l G xEX11_areElements (d + 3) (37, [some (.ref 0), some (.int x1), some (.int x2), some (.int x3), some (.int x4), some (.int x5), none, none, none], [], h) (fun C => ∃ v, xRet xEX11_areElements C v ∧ (C.2.2.2 = r.2 ∧ v = some (.int r.1)) ∧ LY r.2) := by
  induction n generalizing x1 x2 x3 x4 x5 h with
  | zero => cases hf
  | succ n ih => exact ks_t_areElements_37 (fun x1 x2 x3 x4 x5 h L0 hf => ih (h := h) (x1 := x1) (x2 := x2) (x3 := x3) (x4 := x4) (x5 := x5) L0 hf) L0 hf
def b_t_areElements_32 (x1 : Int32) (x2 : Int32) (x3 : Int32) (y0 : Int32) (h : XH) : Option (Int32 × XH) := (b_t_areElements_37 100000 x1 x2 x3 y0 0 h)
set_option maxRecDepth 20000 in
theorem kb_t_areElements_32 {l : Launch} {G : XG} {d : Nat} {x1 : Int32} {x2 : Int32} {x3 : Int32} {y0 : Int32} {h : XH} {r : Int32 × XH} (L0 : LY h) (hf : b_t_areElements_32 x1 x2 x3 y0 h = some r) : XR l G xEX11_areElements (d + 3) (32, [some (.ref 0), some (.int x1), some (.int x2), some (.int x3), none, none, none, none, none], [(.int y0)], h) (fun C => ∃ v, xRet xEX11_areElements C v ∧ (C.2.2.2 = r.2 ∧ v = some (.int r.1)) ∧ LY r.2) := by
  unfold b_t_areElements_32 at hf
  refine XS.go (XS.lcl (L3 := [some (.ref 0), some (.int x1), some (.int x2), some (.int x3), some (.int y0), none, none, none, none]) (s_istore rfl (Nat.le_of_ble_eq_true rfl)) rfl) ?_
  refine XS.go (s_iconst (v := 0) rfl rfl) ?_
  refine XS.go (XS.lcl (L3 := [some (.ref 0), some (.int x1), some (.int x2), some (.int x3), some (.int y0), some (.int 0), none, none, none]) (s_istore rfl (Nat.le_of_ble_eq_true rfl)) rfl) ?_
  exact XR.forget (L2 := [some (.ref 0), some (.int x1), some (.int x2), some (.int x3), some (.int y0), some (.int 0), none, none, none]) ⟨rfl, ⟨rfl, ⟨rfl, ⟨rfl, ⟨rfl, ⟨rfl, trivial⟩⟩⟩⟩⟩⟩ (kb_t_areElements_37 L0 hf)
def f_t_areElements (a0 : Int32) (a1 : Int32) (a2 : Int32) (h : XH) : Option (Int32 × XH) := (if ¬ a0 = 2 then (if ¬ a0 = 1 then (b_t_areElements_32 a0 a1 a2 a1 h) else (b_t_areElements_32 a0 a1 a2 0 h)) else (Option.bind (hr h 0 4) fun b15 => (if b15 < hz h ∧ hk h b15 = 9 then (Option.bind (hr h b15 0) fun b18 => (if b18 < hz h ∧ hk h b18 = 4 then (Option.bind (f_g_at b18 a1 h) fun r21 => (Option.bind (r21.1) fun b24 => (Option.bind (f_t_areLeaves b24 a2 r21.2) fun r26 => (if r26.1 = 0 ∨ r26.1 = 1 then (some (r26.1, r26.2)) else none)))) else none)) else none)))
set_option maxRecDepth 20000 in
theorem kf_t_areElements {l : Launch} {G : XG} {d : Nat} {a0 : Int32} {a1 : Int32} {a2 : Int32} {h : XH} {r : Int32 × XH} (L0 : LY h) (hf : f_t_areElements a0 a1 a2 h = some r) : XC l G xEX11_areElements (d + 3) [.ref 0, .int a0, .int a1, .int a2] h (fun v h2 => (h2 = r.2 ∧ v = some (.int r.1)) ∧ LY r.2) := by
  refine XC.virt xvX11_areElements (Nat.le_of_ble_eq_true rfl) ?_
  unfold f_t_areElements at hf
  refine XR.norm (L3 := [some (.ref 0), some (.int a0), some (.int a1), some (.int a2), none, none, none, none, none]) rfl ?_
  refine XS.go (s_iloadn rfl rfl rfl) ?_
  refine XS.go (s_iconst (v := 2) rfl rfl) ?_
  refine r_icmp_ne (tgt := 22) rfl rfl (fun qc13 => ?_) (fun qc13 => ?_)
  · replace hf := xi_pos hf qc13
    refine XS.go (s_iloadn rfl rfl rfl) ?_
    refine XS.go (s_iconst (v := 1) rfl rfl) ?_
    refine r_icmp_ne (tgt := 31) rfl rfl (fun qc14 => ?_) (fun qc14 => ?_)
    · replace hf := xi_pos hf qc14
      refine XS.go (s_iloadn rfl rfl rfl) ?_
      exact XR.forget (L2 := [some (.ref 0), some (.int a0), some (.int a1), some (.int a2), none, none, none, none, none]) ⟨rfl, ⟨rfl, ⟨rfl, ⟨rfl, trivial⟩⟩⟩⟩ (kb_t_areElements_32 L0 hf)
    · replace hf := xi_neg hf qc14
      refine XS.go (s_iconst (v := 0) rfl rfl) ?_
      refine XS.go (s_goto (tgt := 32) rfl rfl) ?_
      exact XR.forget (L2 := [some (.ref 0), some (.int a0), some (.int a1), some (.int a2), none, none, none, none, none]) ⟨rfl, ⟨rfl, ⟨rfl, ⟨rfl, trivial⟩⟩⟩⟩ (kb_t_areElements_32 L0 hf)
  · replace hf := xi_neg hf qc13
    refine XS.go (s_aloadn rfl rfl rfl) ?_
    refine XS.go (s_aloadn rfl rfl rfl) ?_
    replace hf := xb_some hf
    obtain ⟨b15, qr16, hf⟩ := hf
    refine XS.go (s_getr rfl xf11_36 (LY.lt L0 (by decide)) (LY.k0 L0) (by decide) rfl qr16) ?_
    replace hf := xi_none hf
    obtain ⟨qk17, hf⟩ := hf
    replace hf := xb_some hf
    obtain ⟨b18, qr19, hf⟩ := hf
    refine XS.go (s_getr rfl xf11_125 qk17.1 qk17.2 (by decide) rfl qr19) ?_
    refine XS.go (s_iloadn rfl rfl rfl) ?_
    replace hf := xi_none hf
    obtain ⟨qk20, hf⟩ := hf
    replace hf := xb_some hf
    obtain ⟨r21, e22, hf⟩ := hf
    refine r_callv rfl xvX4_at xm11_134 (kf_g_at (d := d) L0 e22) qk20.1 qk20.2 (by decide) rfl rfl (dl0 (by decide)) (by decide) (Nat.le_of_ble_eq_true rfl) ?_
    rintro _ _ ⟨⟨rfl, rfl⟩, L23⟩
    refine XS.go (s_iloadn rfl rfl rfl) ?_
    replace hf := xb_some hf
    obtain ⟨b24, qo25, hf⟩ := hf
    try rw [qo25]
    replace hf := xb_some hf
    obtain ⟨r26, e27, hf⟩ := hf
    refine r_callv rfl xvX11_areLeaves xm11_257 (kf_t_areLeaves (d := d) L23 e27) (LY.lt L23 (by decide)) (LY.k0 L23) (by decide) rfl rfl (dl (by decide)) (by decide) (Nat.le_of_ble_eq_true rfl) ?_
    rintro _ _ ⟨⟨rfl, rfl⟩, L28⟩
    replace hf := xi_none hf
    obtain ⟨qk29, hf⟩ := hf
    cases hf
    exact XR.retz rfl rfl qk29 (fun hret => ⟨_, hret, ⟨rfl, rfl⟩, L28⟩)
def f_t_leafCount (a0 : Nat) (h : XH) : Option (Int32 × XH) := (if a0 < hz h ∧ hk h a0 = 2 then (some ((hi h a0 11), h)) else none)
set_option maxRecDepth 20000 in
theorem kf_t_leafCount {l : Launch} {G : XG} {d : Nat} {a0 : Nat} {h : XH} {r : Int32 × XH} (L0 : LY h) (hf : f_t_leafCount a0 h = some r) : XC l G xEX11_leafCount d [.ref a0] h (fun v h2 => (h2 = r.2 ∧ v = some (.int r.1)) ∧ LY r.2) := by
  refine XC.stat xsX11_leafCount (Nat.le_of_ble_eq_true rfl) ?_
  unfold f_t_leafCount at hf
  refine XR.norm (L3 := [some (.ref a0)]) rfl ?_
  refine XS.go (s_aloadn rfl rfl rfl) ?_
  refine XS.go (s_ifnonnull_r (tgt := 8) rfl rfl) ?_
  refine XS.go (s_aloadn rfl rfl rfl) ?_
  replace hf := xi_none hf
  obtain ⟨qk1, hf⟩ := hf
  refine XS.go (s_getie rfl xf11_255 qk1.1 qk1.2 (by decide) rfl rfl) ?_
  cases hf
  exact XR.reti rfl rfl (fun hret => ⟨_, hret, ⟨rfl, rfl⟩, L0⟩)
def f_t_valuesOfElement (a0 : Int32) (a1 : Int32) (h : XH) : Option (Int32 × XH) := (if a0 = 0 then (Option.bind (f_t_isScalar a1 h) fun r2 => (if r2.1 = 0 then (some (0, r2.2)) else (some (1, r2.2)))) else (if a0 = 1 then (some (1, h)) else (if a0 = 2 then (Option.bind (hr h 0 4) fun b6 => (if b6 < hz h ∧ hk h b6 = 9 then (Option.bind (hr h b6 0) fun b9 => (if b9 < hz h ∧ hk h b9 = 4 then (Option.bind (f_g_at b9 a1 h) fun r12 => (Option.bind (r12.1) fun b15 => (Option.bind (f_t_leafCount b15 r12.2) fun r17 => (some (r17.1, r17.2))))) else none)) else none)) else (if a0 = 3 then (Option.bind (hr h 0 4) fun b20 => (if b20 < hz h ∧ hk h b20 = 9 then (Option.bind (hr h b20 1) fun b23 => (if b23 < hz h ∧ hk h b23 = 4 then (Option.bind (f_g_at b23 a1 h) fun r26 => (Option.elim (r26.1) (some (0, r26.2)) fun b30 => (some (1, r26.2)))) else none)) else none)) else (some (0, h))))))
set_option maxRecDepth 20000 in
theorem kf_t_valuesOfElement {l : Launch} {G : XG} {d : Nat} {a0 : Int32} {a1 : Int32} {h : XH} {r : Int32 × XH} (L0 : LY h) (hf : f_t_valuesOfElement a0 a1 h = some r) : XC l G xEX11_valuesOfElement (d + 1) [.ref 0, .int a0, .int a1] h (fun v h2 => (h2 = r.2 ∧ v = some (.int r.1)) ∧ LY r.2) := by
  refine XC.virt xvX11_valuesOfElement (Nat.le_of_ble_eq_true rfl) ?_
  unfold f_t_valuesOfElement at hf
  refine XR.norm (L3 := [some (.ref 0), some (.int a0), some (.int a1)]) rfl ?_
  refine XS.go (s_iloadn rfl rfl rfl) ?_
  by_cases qs1_0 : a0 = 0
  · replace hf := xi_pos hf qs1_0
    refine XS.go (s_tswI (tgt := 32) rfl (by rw [qs1_0]; decide) (by rw [qs1_0]; decide) (by rw [qs1_0]; rfl) rfl) ?_
    refine XS.go (s_iloadn rfl rfl rfl) ?_
    replace hf := xb_some hf
    obtain ⟨r2, e3, hf⟩ := hf
    refine r_calls rfl xsX11_isScalar xm11_249 (kf_t_isScalar (d := d) L0 e3) rfl rfl (dl0 (by decide)) (by decide) (Nat.le_of_ble_eq_true rfl) ?_
    rintro _ _ ⟨⟨rfl, rfl⟩, L4⟩
    refine r_if_eq (tgt := 43) rfl rfl (fun qc5 => ?_) (fun qc5 => ?_)
    · replace hf := xi_pos hf qc5
      refine XS.go (s_iconst (v := 0) rfl rfl) ?_
      cases hf
      exact XR.reti rfl rfl (fun hret => ⟨_, hret, ⟨rfl, rfl⟩, L4⟩)
    · replace hf := xi_neg hf qc5
      refine XS.go (s_iconst (v := 1) rfl rfl) ?_
      refine XS.go (s_goto (tgt := 44) rfl rfl) ?_
      cases hf
      exact XR.reti rfl rfl (fun hret => ⟨_, hret, ⟨rfl, rfl⟩, L4⟩)
  replace hf := xi_neg hf qs1_0
  by_cases qs1_1 : a0 = 1
  · replace hf := xi_pos hf qs1_1
    refine XS.go (s_tswI (tgt := 45) rfl (by rw [qs1_1]; decide) (by rw [qs1_1]; decide) (by rw [qs1_1]; rfl) rfl) ?_
    refine XS.go (s_iconst (v := 1) rfl rfl) ?_
    cases hf
    exact XR.reti rfl rfl (fun hret => ⟨_, hret, ⟨rfl, rfl⟩, L0⟩)
  replace hf := xi_neg hf qs1_1
  by_cases qs1_2 : a0 = 2
  · replace hf := xi_pos hf qs1_2
    refine XS.go (s_tswI (tgt := 47) rfl (by rw [qs1_2]; decide) (by rw [qs1_2]; decide) (by rw [qs1_2]; rfl) rfl) ?_
    refine XS.go (s_aloadn rfl rfl rfl) ?_
    replace hf := xb_some hf
    obtain ⟨b6, qr7, hf⟩ := hf
    refine XS.go (s_getr rfl xf11_36 (LY.lt L0 (by decide)) (LY.k0 L0) (by decide) rfl qr7) ?_
    replace hf := xi_none hf
    obtain ⟨qk8, hf⟩ := hf
    replace hf := xb_some hf
    obtain ⟨b9, qr10, hf⟩ := hf
    refine XS.go (s_getr rfl xf11_125 qk8.1 qk8.2 (by decide) rfl qr10) ?_
    refine XS.go (s_iloadn rfl rfl rfl) ?_
    replace hf := xi_none hf
    obtain ⟨qk11, hf⟩ := hf
    replace hf := xb_some hf
    obtain ⟨r12, e13, hf⟩ := hf
    refine r_callv rfl xvX4_at xm11_134 (kf_g_at (d := d) L0 e13) qk11.1 qk11.2 (by decide) rfl rfl (dl0 (by decide)) (by decide) (Nat.le_of_ble_eq_true rfl) ?_
    rintro _ _ ⟨⟨rfl, rfl⟩, L14⟩
    replace hf := xb_some hf
    obtain ⟨b15, qo16, hf⟩ := hf
    try rw [qo16]
    replace hf := xb_some hf
    obtain ⟨r17, e18, hf⟩ := hf
    refine r_calls rfl xsX11_leafCount xm11_252 (kf_t_leafCount (d := d) L14 e18) rfl rfl (dl0 (by decide)) (by decide) (Nat.le_of_ble_eq_true rfl) ?_
    rintro _ _ ⟨⟨rfl, rfl⟩, L19⟩
    cases hf
    exact XR.reti rfl rfl (fun hret => ⟨_, hret, ⟨rfl, rfl⟩, L19⟩)
  replace hf := xi_neg hf qs1_2
  by_cases qs1_3 : a0 = 3
  · replace hf := xi_pos hf qs1_3
    refine XS.go (s_tswI (tgt := 62) rfl (by rw [qs1_3]; decide) (by rw [qs1_3]; decide) (by rw [qs1_3]; rfl) rfl) ?_
    refine XS.go (s_aloadn rfl rfl rfl) ?_
    replace hf := xb_some hf
    obtain ⟨b20, qr21, hf⟩ := hf
    refine XS.go (s_getr rfl xf11_36 (LY.lt L0 (by decide)) (LY.k0 L0) (by decide) rfl qr21) ?_
    replace hf := xi_none hf
    obtain ⟨qk22, hf⟩ := hf
    replace hf := xb_some hf
    obtain ⟨b23, qr24, hf⟩ := hf
    refine XS.go (s_getr rfl xf11_116 qk22.1 qk22.2 (by decide) rfl qr24) ?_
    refine XS.go (s_iloadn rfl rfl rfl) ?_
    replace hf := xi_none hf
    obtain ⟨qk25, hf⟩ := hf
    replace hf := xb_some hf
    obtain ⟨r26, e27, hf⟩ := hf
    refine r_callv rfl xvX4_at xm11_134 (kf_g_at (d := d) L0 e27) qk25.1 qk25.2 (by decide) rfl rfl (dl0 (by decide)) (by decide) (Nat.le_of_ble_eq_true rfl) ?_
    rintro _ _ ⟨⟨rfl, rfl⟩, L28⟩
    refine r_ifnonnull (tgt := 80) rfl rfl (fun qn29 => ?_) (fun b30 qn29 => ?_)
    · replace hf := xo_none hf qn29
      try rw [qn29]
      refine XS.go (s_iconst (v := 0) rfl rfl) ?_
      refine XS.go (s_goto (tgt := 81) rfl rfl) ?_
      cases hf
      exact XR.reti rfl rfl (fun hret => ⟨_, hret, ⟨rfl, rfl⟩, L28⟩)
    · replace hf := xo_some hf qn29
      try rw [qn29]
      refine XS.go (s_iconst (v := 1) rfl rfl) ?_
      cases hf
      exact XR.reti rfl rfl (fun hret => ⟨_, hret, ⟨rfl, rfl⟩, L28⟩)
  replace hf := xi_neg hf qs1_3
  have qs1_o : (a0).toInt < 0 ∨ 3 < (a0).toInt := by
    refine tsw_out 0 3 (by decide) ?_
    intro k h1 h2
    have z : k = 0 ∨ k = 1 ∨ k = 2 ∨ k = 3 := by omega
    rcases z with rfl | rfl | rfl | rfl
    · exact qs1_0
    · exact qs1_1
    · exact qs1_2
    · exact qs1_3
  refine XS.go (s_tswO (tgt := 82) rfl qs1_o rfl) ?_
  refine XS.go (s_iconst (v := 0) rfl rfl) ?_
  cases hf
  exact XR.reti rfl rfl (fun hret => ⟨_, hret, ⟨rfl, rfl⟩, L0⟩)
def b_t_vector_79 (x1 : Int32) (x3 : Int32) (x4 : Int32) (y0 : Int32) (h : XH) : Option (Sum Int32 Nat × XH) := (Option.bind (hr h 0 4) fun b1 => (if ¬ x4 = 0 then (Option.bind (f_u_addVector b1 x1 y0 5 (x3 / x4) h) fun r4 => (if ¬ r4.1 = (-1) then (some (Sum.inl r4.1, r4.2)) else (if hz r4.2 < 1000000 then (some (Sum.inr 2, hthr r4.2)) else none))) else none))
set_option maxRecDepth 20000 in
theorem kb_t_vector_79 {l : Launch} {G : XG} {d : Nat} {x1 : Int32} {x3 : Int32} {x4 : Int32} {y0 : Int32} {h : XH} {r : Sum Int32 Nat × XH} (L0 : LY h) (hf : b_t_vector_79 x1 x3 x4 y0 h = some r) : XR l G xEX11_vector (d + 6) (79, [some (.ref 0), some (.int x1), none, some (.int x3), some (.int x4), none, none], [(.int y0)], h) (fun C => (∃ v, xRet xEX11_vector C v ∧ (C.2.2.2 = r.2 ∧ ∃ x, r.1 = Sum.inl x ∧ v = some (.int x)) ∧ LY r.2) ∨ ∃ k E, r.1 = Sum.inr k ∧ xXs[k]? = some E ∧ XThrown xEX11_vector C E ∧ hthr C.2.2.2 = r.2 ∧ LY r.2) := by
  unfold b_t_vector_79 at hf
  refine XS.go (XS.lcl (L3 := [some (.ref 0), some (.int x1), none, some (.int x3), some (.int x4), some (.int y0), none]) (s_istore rfl (Nat.le_of_ble_eq_true rfl)) rfl) ?_
  refine XS.go (s_aloadn rfl rfl rfl) ?_
  refine XS.go (s_getr rfl xf11_46 (LY.lt L0 (by decide)) (LY.k0 L0) (by decide) rfl (LY.r0_6 L0)) ?_
  refine XS.go (s_aloadn rfl rfl rfl) ?_
  replace hf := xb_some hf
  obtain ⟨b1, qr2, hf⟩ := hf
  refine XS.go (s_getr rfl xf11_36 (LY.lt L0 (by decide)) (LY.k0 L0) (by decide) rfl qr2) ?_
  refine XS.go (s_iloadn rfl rfl rfl) ?_
  refine XS.go (s_iload rfl rfl) ?_
  refine XS.go (s_aloadn rfl rfl rfl) ?_
  refine XS.go (s_getr rfl xf11_22 (LY.lt L0 (by decide)) (LY.k0 L0) (by decide) rfl (LY.r0_2 L0)) ?_
  refine XS.go (s_iloadn rfl rfl rfl) ?_
  refine XS.go (s_iload rfl rfl) ?_
  replace hf := xi_none hf
  obtain ⟨qk3, hf⟩ := hf
  refine XS.go (s_idiv qk3 rfl) ?_
  replace hf := xb_some hf
  obtain ⟨r4, e5, hf⟩ := hf
  refine r_callv rfl xvX0_addVector xm11_243 (kf_u_addVector (d := d) L0 e5) (LY.lt L0 (by decide)) (LY.k1244 L0) (by decide) rfl rfl (dl (by decide)) (by decide) (Nat.le_of_ble_eq_true rfl) ?_
  rintro _ _ ⟨⟨rfl, rfl⟩, L6⟩
  refine XS.go (XS.lcl (L3 := [some (.ref 0), some (.int x1), none, some (.int x3), some (.int x4), some (.int y0), some (.int r4.1)]) (s_istore rfl (Nat.le_of_ble_eq_true rfl)) rfl) ?_
  refine XS.go (s_iload rfl rfl) ?_
  refine XS.go (s_iconst (v := (-1)) rfl rfl) ?_
  refine r_icmp_ne (tgt := 121) rfl rfl (fun qc7 => ?_) (fun qc7 => ?_)
  · replace hf := xi_pos hf qc7
    refine XS.go (s_iload rfl rfl) ?_
    cases hf
    exact XR.reti rfl rfl (fun hret => Or.inl ⟨_, hret, ⟨rfl, ⟨_, rfl, rfl⟩⟩, L6⟩)
  · replace hf := xi_neg hf qc7
    replace hf := xi_none hf
    obtain ⟨qk8, hf⟩ := hf
    cases hf
    exact XR.here (Or.inr ⟨2, _, rfl, rfl, ⟨225, 247, 229, 22, _, rfl, xthr2, ⟨⟨rfl, rfl, rfl⟩, Or.inl ⟨rfl, rfl, rfl⟩⟩, qk8⟩, rfl, LY.new L6 qk8⟩)
def b_t_vector_59 (h : XH) : Option (Sum Int32 Nat × XH) := (if hz h < 1000000 then (some (Sum.inr 0, hthr h)) else none)
set_option maxRecDepth 20000 in
theorem kb_t_vector_59 {l : Launch} {G : XG} {d : Nat} {h : XH} {r : Sum Int32 Nat × XH} (L0 : LY h) (hf : b_t_vector_59 h = some r) : XR l G xEX11_vector (d + 6) (59, [none, none, none, none, none, none, none], [], h) (fun C => (∃ v, xRet xEX11_vector C v ∧ (C.2.2.2 = r.2 ∧ ∃ x, r.1 = Sum.inl x ∧ v = some (.int x)) ∧ LY r.2) ∨ ∃ k E, r.1 = Sum.inr k ∧ xXs[k]? = some E ∧ XThrown xEX11_vector C E ∧ hthr C.2.2.2 = r.2 ∧ LY r.2) := by
  unfold b_t_vector_59 at hf
  replace hf := xi_none hf
  obtain ⟨qk9, hf⟩ := hf
  cases hf
  exact XR.here (Or.inr ⟨0, _, rfl, rfl, ⟨103, 241, 107, 21, _, rfl, xthr0, ⟨⟨rfl, rfl, rfl⟩, Or.inl ⟨rfl, rfl, rfl⟩⟩, qk9⟩, rfl, LY.new L0 qk9⟩)
def f_t_vector (a0 : Int32) (a1 : Int32) (h : XH) : Option (Sum Int32 Nat × XH) := (Option.bind (f_w_takeAll 5 h) fun r10 => (Option.bind (f_u_isOpen r10.2) fun r13 => (if r13.1 = 0 then (Option.bind (f_t_valuesOfElement a0 a1 r13.2) fun r17 => (if r17.1 < 1 then (b_t_vector_59 r17.2) else (if ¬ r17.1 = 0 then (if ¬ (r10.1 - r10.1 / r17.1 * r17.1) = 0 then (b_t_vector_59 r17.2) else (Option.bind (f_t_areElements a0 a1 r10.1 r17.2) fun r23 => (if ¬ r23.1 = 0 then (if ¬ a0 = 1 then (b_t_vector_79 a0 r10.1 r17.1 a1 r23.2) else (b_t_vector_79 a0 r10.1 r17.1 0 r23.2)) else (b_t_vector_59 r23.2)))) else none))) else (if hz r13.2 < 1000000 then (some (Sum.inr 1, hthr r13.2)) else none))))
set_option maxRecDepth 20000 in
theorem kf_t_vector {l : Launch} {G : XG} {d : Nat} {a0 : Int32} {a1 : Int32} {h : XH} {r : Sum Int32 Nat × XH} (hl : l.stackTraces = false) (L0 : LY h) (hf : f_t_vector a0 a1 h = some r) : (∃ x, r.1 = Sum.inl x ∧ XC l G xEX11_vector (d + 6) [.ref 0, .int a0, .int a1] h (fun v h2 => (h2 = r.2 ∧ v = some (.int x)) ∧ LY r.2)) ∨ ∃ k E, r.1 = Sum.inr k ∧ xXs[k]? = some E ∧ XCx l G xEX11_vector (d + 6) [.ref 0, .int a0, .int a1] h E (fun h2 => h2 = r.2 ∧ LY r.2) := by
  refine xe_of (R := Int32) (V := fun x => some (.int x)) hl xvX11_vector rfl (Nat.le_of_ble_eq_true rfl) (by omega) ?_
  unfold f_t_vector at hf
  refine XR.norm (L3 := [some (.ref 0), some (.int a0), some (.int a1), none, none, none, none]) rfl ?_
  refine XS.go (s_aloadn rfl rfl rfl) ?_
  refine XS.go (s_getr rfl xf11_22 (LY.lt L0 (by decide)) (LY.k0 L0) (by decide) rfl (LY.r0_2 L0)) ?_
  replace hf := xb_some hf
  obtain ⟨r10, e11, hf⟩ := hf
  refine r_callv rfl xvX10_takeAll xm11_230 (kf_w_takeAll (d := d) L0 e11) (LY.lt L0 (by decide)) (LY.k5 L0) (by decide) rfl rfl (dl0 (by decide)) (by decide) (Nat.le_of_ble_eq_true rfl) ?_
  rintro _ _ ⟨⟨rfl, rfl⟩, L12⟩
  refine XS.go (XS.lcl (L3 := [some (.ref 0), some (.int a0), some (.int a1), some (.int r10.1), none, none, none]) (s_istoren rfl rfl (Nat.le_of_ble_eq_true rfl)) rfl) ?_
  refine XS.go (s_aloadn rfl rfl rfl) ?_
  refine XS.go (s_getr rfl xf11_46 (LY.lt L12 (by decide)) (LY.k0 L12) (by decide) rfl (LY.r0_6 L12)) ?_
  replace hf := xb_some hf
  obtain ⟨r13, e14, hf⟩ := hf
  refine r_callv rfl xvX0_isOpen xm11_213 (kf_u_isOpen (d := d) L12 e14) (LY.lt L12 (by decide)) (LY.k1244 L12) (by decide) rfl rfl (dl0 (by decide)) (by decide) (Nat.le_of_ble_eq_true rfl) ?_
  rintro _ _ ⟨⟨rfl, rfl⟩, L15⟩
  refine r_if_eq (tgt := 28) rfl rfl (fun qc16 => ?_) (fun qc16 => ?_)
  · replace hf := xi_pos hf qc16
    refine XS.go (s_aloadn rfl rfl rfl) ?_
    refine XS.go (s_iloadn rfl rfl rfl) ?_
    refine XS.go (s_iloadn rfl rfl rfl) ?_
    replace hf := xb_some hf
    obtain ⟨r17, e18, hf⟩ := hf
    refine r_callv rfl xvX11_valuesOfElement xm11_233 (kf_t_valuesOfElement (d := d) L15 e18) (LY.lt L15 (by decide)) (LY.k0 L15) (by decide) rfl rfl (dl (by decide)) (by decide) (Nat.le_of_ble_eq_true rfl) ?_
    rintro _ _ ⟨⟨rfl, rfl⟩, L19⟩
    refine XS.go (XS.lcl (L3 := [some (.ref 0), some (.int a0), some (.int a1), some (.int r10.1), some (.int r17.1), none, none]) (s_istore rfl (Nat.le_of_ble_eq_true rfl)) rfl) ?_
    refine XS.go (s_iload rfl rfl) ?_
    refine XS.go (s_iconst (v := 1) rfl rfl) ?_
    refine r_icmp_lt (tgt := 59) rfl rfl (fun qc20 => ?_) (fun qc20 => ?_)
    · replace hf := xi_pos hf qc20
      exact XR.forget (L2 := [none, none, none, none, none, none, none]) trivial (kb_t_vector_59 L19 hf)
    · replace hf := xi_neg hf qc20
      refine XS.go (s_iloadn rfl rfl rfl) ?_
      refine XS.go (s_iload rfl rfl) ?_
      replace hf := xi_none hf
      obtain ⟨qk21, hf⟩ := hf
      refine XS.go (s_irem qk21 rfl) ?_
      refine r_if_ne (tgt := 59) rfl rfl (fun qc22 => ?_) (fun qc22 => ?_)
      · replace hf := xi_pos hf qc22
        exact XR.forget (L2 := [none, none, none, none, none, none, none]) trivial (kb_t_vector_59 L19 hf)
      · replace hf := xi_neg hf qc22
        refine XS.go (s_aloadn rfl rfl rfl) ?_
        refine XS.go (s_iloadn rfl rfl rfl) ?_
        refine XS.go (s_iloadn rfl rfl rfl) ?_
        refine XS.go (s_iloadn rfl rfl rfl) ?_
        replace hf := xb_some hf
        obtain ⟨r23, e24, hf⟩ := hf
        refine r_callv rfl xvX11_areElements xm11_237 (kf_t_areElements (d := d) L19 e24) (LY.lt L19 (by decide)) (LY.k0 L19) (by decide) rfl rfl (dl (by decide)) (by decide) (Nat.le_of_ble_eq_true rfl) ?_
        rintro _ _ ⟨⟨rfl, rfl⟩, L25⟩
        refine r_if_ne (tgt := 69) rfl rfl (fun qc26 => ?_) (fun qc26 => ?_)
        · replace hf := xi_pos hf qc26
          refine XS.go (s_iloadn rfl rfl rfl) ?_
          refine XS.go (s_iconst (v := 1) rfl rfl) ?_
          refine r_icmp_ne (tgt := 78) rfl rfl (fun qc27 => ?_) (fun qc27 => ?_)
          · replace hf := xi_pos hf qc27
            refine XS.go (s_iloadn rfl rfl rfl) ?_
            exact XR.forget (L2 := [some (.ref 0), some (.int a0), none, some (.int r10.1), some (.int r17.1), none, none]) ⟨rfl, ⟨rfl, ⟨rfl, ⟨rfl, trivial⟩⟩⟩⟩ (kb_t_vector_79 L25 hf)
          · replace hf := xi_neg hf qc27
            refine XS.go (s_iconst (v := 0) rfl rfl) ?_
            refine XS.go (s_goto (tgt := 79) rfl rfl) ?_
            exact XR.forget (L2 := [some (.ref 0), some (.int a0), none, some (.int r10.1), some (.int r17.1), none, none]) ⟨rfl, ⟨rfl, ⟨rfl, ⟨rfl, trivial⟩⟩⟩⟩ (kb_t_vector_79 L25 hf)
        · replace hf := xi_neg hf qc26
          exact XR.forget (L2 := [none, none, none, none, none, none, none]) trivial (kb_t_vector_59 L25 hf)
  · replace hf := xi_neg hf qc16
    replace hf := xi_none hf
    obtain ⟨qk28, hf⟩ := hf
    cases hf
    exact XR.here (Or.inr ⟨1, _, rfl, rfl, ⟨216, 218, 220, 19, _, rfl, xthr1, ⟨⟨rfl, rfl, rfl⟩, Or.inl ⟨rfl, rfl, rfl⟩⟩, qk28⟩, rfl, LY.new L15 qk28⟩)
