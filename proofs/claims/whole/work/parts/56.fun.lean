/-! Methods as functions of the heap -/
def b_r_isPartReadable_24 (h : XH) : Option (Int32 × XH) := (some (1, h))
set_option maxRecDepth 20000 in
theorem kb_r_isPartReadable_24 {l : Launch} {G : XG} {d : Nat} {h : XH} {r : Int32 × XH} (L0 : LY h) (hf : b_r_isPartReadable_24 h = some r) : XR l G xEX8_isPartReadable d (24, [none], [], h) (fun C => ∃ v, xRet xEX8_isPartReadable C v ∧ (C.2.2.2 = r.2 ∧ v = some (.int r.1)) ∧ LY r.2) := by
  unfold b_r_isPartReadable_24 at hf
  refine XS.go (s_iconst (v := 1) rfl rfl) ?_
  refine XS.go (s_goto (tgt := 29) rfl rfl) ?_
  cases hf
  exact XR.retz rfl rfl (by decide) (fun hret => ⟨_, hret, ⟨rfl, rfl⟩, L0⟩)
def f_r_isPartReadable (h : XH) : Option (Int32 × XH) := (if (hi h 1255 6) = 0 then (b_r_isPartReadable_24 h) else (if (hi h 1255 6) = 6 then (b_r_isPartReadable_24 h) else (if ¬ (hi h 1255 6) = 4 then (some (0, h)) else (b_r_isPartReadable_24 h))))
set_option maxRecDepth 20000 in
theorem kf_r_isPartReadable {l : Launch} {G : XG} {d : Nat} {h : XH} {r : Int32 × XH} (L0 : LY h) (hf : f_r_isPartReadable h = some r) : XC l G xEX8_isPartReadable d [.ref 1255] h (fun v h2 => (h2 = r.2 ∧ v = some (.int r.1)) ∧ LY r.2) := by
  refine XC.virt xvX8_isPartReadable (Nat.le_of_ble_eq_true rfl) ?_
  unfold f_r_isPartReadable at hf
  refine XR.norm (L3 := [some (.ref 1255)]) rfl ?_
  refine XS.go (s_aloadn rfl rfl rfl) ?_
  refine XS.go (s_getie rfl xf8_35 (LY.lt L0 (by decide)) (LY.k1255 L0) (by decide) rfl rfl) ?_
  refine r_if_eq (tgt := 24) rfl rfl (fun qc1 => ?_) (fun qc1 => ?_)
  · replace hf := xi_pos hf qc1
    exact XR.forget (L2 := [none]) trivial (kb_r_isPartReadable_24 L0 hf)
  · replace hf := xi_neg hf qc1
    refine XS.go (s_aloadn rfl rfl rfl) ?_
    refine XS.go (s_getie rfl xf8_35 (LY.lt L0 (by decide)) (LY.k1255 L0) (by decide) rfl rfl) ?_
    refine XS.go (s_bipush (v := 6) rfl rfl) ?_
    refine r_icmp_eq (tgt := 24) rfl rfl (fun qc2 => ?_) (fun qc2 => ?_)
    · replace hf := xi_pos hf qc2
      exact XR.forget (L2 := [none]) trivial (kb_r_isPartReadable_24 L0 hf)
    · replace hf := xi_neg hf qc2
      refine XS.go (s_aloadn rfl rfl rfl) ?_
      refine XS.go (s_getie rfl xf8_35 (LY.lt L0 (by decide)) (LY.k1255 L0) (by decide) rfl rfl) ?_
      refine XS.go (s_iconst (v := 4) rfl rfl) ?_
      refine r_icmp_ne (tgt := 28) rfl rfl (fun qc3 => ?_) (fun qc3 => ?_)
      · replace hf := xi_pos hf qc3
        refine XS.go (s_iconst (v := 0) rfl rfl) ?_
        cases hf
        exact XR.retz rfl rfl (by decide) (fun hret => ⟨_, hret, ⟨rfl, rfl⟩, L0⟩)
      · replace hf := xi_neg hf qc3
        exact XR.forget (L2 := [none]) trivial (kb_r_isPartReadable_24 L0 hf)
def f_r_partValue (h : XH) : Option (Int64 × XH) := (if ¬ (hi h 1255 6) = 4 then (if ¬ (hi h 1255 8) = (-1) then (if ¬ (hi h 1255 6) = 0 then (Option.bind (f_b_octet 1256 (hi h 1255 8) h) fun r4 => (some ((Int32.toInt64 r4.1), r4.2))) else (Option.bind (f_b_scalar 1256 (hi h 1255 8) (hi h 1255 7) h) fun r7 => (some (r7.1, r7.2)))) else (some ((hj h 1255 10), h))) else (some ((Int32.toInt64 (hi h 1255 11)), h)))
set_option maxRecDepth 20000 in
theorem kf_r_partValue {l : Launch} {G : XG} {d : Nat} {h : XH} {r : Int64 × XH} (L0 : LY h) (hf : f_r_partValue h = some r) : XC l G xEX8_partValue (d + 3) [.ref 1255] h (fun v h2 => (h2 = r.2 ∧ v = some (.long r.1)) ∧ LY r.2) := by
  refine XC.virt xvX8_partValue (Nat.le_of_ble_eq_true rfl) ?_
  unfold f_r_partValue at hf
  refine XR.norm (L3 := [some (.ref 1255)]) rfl ?_
  refine XS.go (s_aloadn rfl rfl rfl) ?_
  refine XS.go (s_getie rfl xf8_35 (LY.lt L0 (by decide)) (LY.k1255 L0) (by decide) rfl rfl) ?_
  refine XS.go (s_iconst (v := 4) rfl rfl) ?_
  refine r_icmp_ne (tgt := 14) rfl rfl (fun qc1 => ?_) (fun qc1 => ?_)
  · replace hf := xi_pos hf qc1
    refine XS.go (s_aloadn rfl rfl rfl) ?_
    refine XS.go (s_getie rfl xf8_41 (LY.lt L0 (by decide)) (LY.k1255 L0) (by decide) rfl rfl) ?_
    refine XS.go (s_iconst (v := (-1)) rfl rfl) ?_
    refine r_icmp_ne (tgt := 27) rfl rfl (fun qc2 => ?_) (fun qc2 => ?_)
    · replace hf := xi_pos hf qc2
      refine XS.go (s_aloadn rfl rfl rfl) ?_
      refine XS.go (s_getie rfl xf8_35 (LY.lt L0 (by decide)) (LY.k1255 L0) (by decide) rfl rfl) ?_
      refine r_if_ne (tgt := 52) rfl rfl (fun qc3 => ?_) (fun qc3 => ?_)
      · replace hf := xi_pos hf qc3
        refine XS.go (s_aloadn rfl rfl rfl) ?_
        refine XS.go (s_getr rfl xf8_12 (LY.lt L0 (by decide)) (LY.k1255 L0) (by decide) rfl (LY.r1255_0 L0)) ?_
        refine XS.go (s_aloadn rfl rfl rfl) ?_
        refine XS.go (s_getie rfl xf8_41 (LY.lt L0 (by decide)) (LY.k1255 L0) (by decide) rfl rfl) ?_
        replace hf := xb_some hf
        obtain ⟨r4, e5, hf⟩ := hf
        refine r_callv rfl xvX1_octet xm8_155 (kf_b_octet (d := d) L0 e5) (LY.lt L0 (by decide)) (LY.k1256 L0) (by decide) rfl rfl (dl0 (by decide)) (by decide) (Nat.le_of_ble_eq_true rfl) ?_
        rintro _ _ ⟨⟨rfl, rfl⟩, L6⟩
        refine XS.go (s_i2l rfl) ?_
        cases hf
        exact XR.retl rfl rfl (fun hret => ⟨_, hret, ⟨rfl, rfl⟩, L6⟩)
      · replace hf := xi_neg hf qc3
        refine XS.go (s_aloadn rfl rfl rfl) ?_
        refine XS.go (s_getr rfl xf8_12 (LY.lt L0 (by decide)) (LY.k1255 L0) (by decide) rfl (LY.r1255_0 L0)) ?_
        refine XS.go (s_aloadn rfl rfl rfl) ?_
        refine XS.go (s_getie rfl xf8_41 (LY.lt L0 (by decide)) (LY.k1255 L0) (by decide) rfl rfl) ?_
        refine XS.go (s_aloadn rfl rfl rfl) ?_
        refine XS.go (s_getie rfl xf8_38 (LY.lt L0 (by decide)) (LY.k1255 L0) (by decide) rfl rfl) ?_
        replace hf := xb_some hf
        obtain ⟨r7, e8, hf⟩ := hf
        refine r_callv rfl xvX1_scalar xm8_158 (kf_b_scalar (d := d) L0 e8) (LY.lt L0 (by decide)) (LY.k1256 L0) (by decide) rfl rfl (dl (by decide)) (by decide) (Nat.le_of_ble_eq_true rfl) ?_
        rintro _ _ ⟨⟨rfl, rfl⟩, L9⟩
        refine XS.go (s_goto (tgt := 64) rfl rfl) ?_
        cases hf
        exact XR.retl rfl rfl (fun hret => ⟨_, hret, ⟨rfl, rfl⟩, L9⟩)
    · replace hf := xi_neg hf qc2
      refine XS.go (s_aloadn rfl rfl rfl) ?_
      refine XS.go (s_getje rfl xf8_47 (LY.lt L0 (by decide)) (LY.k1255 L0) (by decide) rfl rfl) ?_
      cases hf
      exact XR.retl rfl rfl (fun hret => ⟨_, hret, ⟨rfl, rfl⟩, L0⟩)
  · replace hf := xi_neg hf qc1
    refine XS.go (s_aloadn rfl rfl rfl) ?_
    refine XS.go (s_getie rfl xf8_51 (LY.lt L0 (by decide)) (LY.k1255 L0) (by decide) rfl rfl) ?_
    refine XS.go (s_i2l rfl) ?_
    cases hf
    exact XR.retl rfl rfl (fun hret => ⟨_, hret, ⟨rfl, rfl⟩, L0⟩)
def b_r_enterPart_40 (h : XH) : Option (Int32 × XH) := (Option.bind (f_b_behind 1256 (hi h 1255 8) h) fun r1 => (Option.bind (f_r_enter (hi h 1255 6) (hi h 1255 7) (hi h 1255 9) r1.1 r1.2) fun r4 => (some (r4.1, r4.2))))
set_option maxRecDepth 20000 in
theorem kb_r_enterPart_40 {l : Launch} {G : XG} {d : Nat} {h : XH} {r : Int32 × XH} (L0 : LY h) (hf : b_r_enterPart_40 h = some r) : XR l G xEX8_enterPart (d + 3) (40, [some (.ref 1255)], [], h) (fun C => ∃ v, xRet xEX8_enterPart C v ∧ (C.2.2.2 = r.2 ∧ v = some (.int r.1)) ∧ LY r.2) := by
  unfold b_r_enterPart_40 at hf
  refine XS.go (s_aloadn rfl rfl rfl) ?_
  refine XS.go (s_aloadn rfl rfl rfl) ?_
  refine XS.go (s_getie rfl xf8_35 (LY.lt L0 (by decide)) (LY.k1255 L0) (by decide) rfl rfl) ?_
  refine XS.go (s_aloadn rfl rfl rfl) ?_
  refine XS.go (s_getie rfl xf8_38 (LY.lt L0 (by decide)) (LY.k1255 L0) (by decide) rfl rfl) ?_
  refine XS.go (s_aloadn rfl rfl rfl) ?_
  refine XS.go (s_getie rfl xf8_44 (LY.lt L0 (by decide)) (LY.k1255 L0) (by decide) rfl rfl) ?_
  refine XS.go (s_aloadn rfl rfl rfl) ?_
  refine XS.go (s_getr rfl xf8_12 (LY.lt L0 (by decide)) (LY.k1255 L0) (by decide) rfl (LY.r1255_0 L0)) ?_
  refine XS.go (s_aloadn rfl rfl rfl) ?_
  refine XS.go (s_getie rfl xf8_41 (LY.lt L0 (by decide)) (LY.k1255 L0) (by decide) rfl rfl) ?_
  replace hf := xb_some hf
  obtain ⟨r1, e2, hf⟩ := hf
  refine r_callv rfl xvX1_behind xm8_65 (kf_b_behind (d := d) L0 e2) (LY.lt L0 (by decide)) (LY.k1256 L0) (by decide) rfl rfl (dl (by decide)) (by decide) (Nat.le_of_ble_eq_true rfl) ?_
  rintro _ _ ⟨⟨rfl, rfl⟩, L3⟩
  replace hf := xb_some hf
  obtain ⟨r4, e5, hf⟩ := hf
  refine r_callv rfl xvX8_enter xm8_69 (kf_r_enter (d := d) L3 e5) (LY.lt L3 (by decide)) (LY.k1255 L3) (by decide) rfl rfl (dl (by decide)) (by decide) (Nat.le_of_ble_eq_true rfl) ?_
  rintro _ _ ⟨⟨rfl, rfl⟩, L6⟩
  cases hf
  exact XR.reti rfl rfl (fun hret => ⟨_, hret, ⟨rfl, rfl⟩, L6⟩)
def f_r_enterPart (h : XH) : Option (Int32 × XH) := (if (hi h 1255 6) = 1 then (b_r_enterPart_40 h) else (if (hi h 1255 6) = 2 then (Option.bind (f_r_enter 2 (hi h 1255 7) (-1) (hi h 1255 8) h) fun r8 => (some (r8.1, r8.2))) else (if (hi h 1255 6) = 3 then (b_r_enterPart_40 h) else (if (hi h 1255 6) = 4 then (Option.bind (f_b_behind 1256 (hi h 1255 8) h) fun r11 => (Option.bind (f_r_enter 3 (hi h 1255 7) (-1) r11.1 r11.2) fun r14 => (some (r14.1, r14.2)))) else (if (hi h 1255 6) = 5 then (b_r_enterPart_40 h) else (some ((-1), h)))))))
set_option maxRecDepth 20000 in
theorem kf_r_enterPart {l : Launch} {G : XG} {d : Nat} {h : XH} {r : Int32 × XH} (L0 : LY h) (hf : f_r_enterPart h = some r) : XC l G xEX8_enterPart (d + 3) [.ref 1255] h (fun v h2 => (h2 = r.2 ∧ v = some (.int r.1)) ∧ LY r.2) := by
  refine XC.virt xvX8_enterPart (Nat.le_of_ble_eq_true rfl) ?_
  unfold f_r_enterPart at hf
  refine XR.norm (L3 := [some (.ref 1255)]) rfl ?_
  refine XS.go (s_aloadn rfl rfl rfl) ?_
  refine XS.go (s_getie rfl xf8_35 (LY.lt L0 (by decide)) (LY.k1255 L0) (by decide) rfl rfl) ?_
  by_cases qs7_0 : (hi h 1255 6) = 1
  · replace hf := xi_pos hf qs7_0
    refine XS.go (s_tswI (tgt := 40) rfl (by rw [qs7_0]; decide) (by rw [qs7_0]; decide) (by rw [qs7_0]; rfl) rfl) ?_
    exact XR.forget (L2 := [some (.ref 1255)]) ⟨rfl, trivial⟩ (kb_r_enterPart_40 L0 hf)
  replace hf := xi_neg hf qs7_0
  by_cases qs7_1 : (hi h 1255 6) = 2
  · replace hf := xi_pos hf qs7_1
    refine XS.go (s_tswI (tgt := 90) rfl (by rw [qs7_1]; decide) (by rw [qs7_1]; decide) (by rw [qs7_1]; rfl) rfl) ?_
    refine XS.go (s_aloadn rfl rfl rfl) ?_
    refine XS.go (s_iconst (v := 2) rfl rfl) ?_
    refine XS.go (s_aloadn rfl rfl rfl) ?_
    refine XS.go (s_getie rfl xf8_38 (LY.lt L0 (by decide)) (LY.k1255 L0) (by decide) rfl rfl) ?_
    refine XS.go (s_iconst (v := (-1)) rfl rfl) ?_
    refine XS.go (s_aloadn rfl rfl rfl) ?_
    refine XS.go (s_getie rfl xf8_41 (LY.lt L0 (by decide)) (LY.k1255 L0) (by decide) rfl rfl) ?_
    replace hf := xb_some hf
    obtain ⟨r8, e9, hf⟩ := hf
    refine r_callv rfl xvX8_enter xm8_69 (kf_r_enter (d := d) L0 e9) (LY.lt L0 (by decide)) (LY.k1255 L0) (by decide) rfl rfl (dl (by decide)) (by decide) (Nat.le_of_ble_eq_true rfl) ?_
    rintro _ _ ⟨⟨rfl, rfl⟩, L10⟩
    cases hf
    exact XR.reti rfl rfl (fun hret => ⟨_, hret, ⟨rfl, rfl⟩, L10⟩)
  replace hf := xi_neg hf qs7_1
  by_cases qs7_2 : (hi h 1255 6) = 3
  · replace hf := xi_pos hf qs7_2
    refine XS.go (s_tswI (tgt := 40) rfl (by rw [qs7_2]; decide) (by rw [qs7_2]; decide) (by rw [qs7_2]; rfl) rfl) ?_
    exact XR.forget (L2 := [some (.ref 1255)]) ⟨rfl, trivial⟩ (kb_r_enterPart_40 L0 hf)
  replace hf := xi_neg hf qs7_2
  by_cases qs7_3 : (hi h 1255 6) = 4
  · replace hf := xi_pos hf qs7_3
    refine XS.go (s_tswI (tgt := 68) rfl (by rw [qs7_3]; decide) (by rw [qs7_3]; decide) (by rw [qs7_3]; rfl) rfl) ?_
    refine XS.go (s_aloadn rfl rfl rfl) ?_
    refine XS.go (s_iconst (v := 3) rfl rfl) ?_
    refine XS.go (s_aloadn rfl rfl rfl) ?_
    refine XS.go (s_getie rfl xf8_38 (LY.lt L0 (by decide)) (LY.k1255 L0) (by decide) rfl rfl) ?_
    refine XS.go (s_iconst (v := (-1)) rfl rfl) ?_
    refine XS.go (s_aloadn rfl rfl rfl) ?_
    refine XS.go (s_getr rfl xf8_12 (LY.lt L0 (by decide)) (LY.k1255 L0) (by decide) rfl (LY.r1255_0 L0)) ?_
    refine XS.go (s_aloadn rfl rfl rfl) ?_
    refine XS.go (s_getie rfl xf8_41 (LY.lt L0 (by decide)) (LY.k1255 L0) (by decide) rfl rfl) ?_
    replace hf := xb_some hf
    obtain ⟨r11, e12, hf⟩ := hf
    refine r_callv rfl xvX1_behind xm8_65 (kf_b_behind (d := d) L0 e12) (LY.lt L0 (by decide)) (LY.k1256 L0) (by decide) rfl rfl (dl (by decide)) (by decide) (Nat.le_of_ble_eq_true rfl) ?_
    rintro _ _ ⟨⟨rfl, rfl⟩, L13⟩
    replace hf := xb_some hf
    obtain ⟨r14, e15, hf⟩ := hf
    refine r_callv rfl xvX8_enter xm8_69 (kf_r_enter (d := d) L13 e15) (LY.lt L13 (by decide)) (LY.k1255 L13) (by decide) rfl rfl (dl (by decide)) (by decide) (Nat.le_of_ble_eq_true rfl) ?_
    rintro _ _ ⟨⟨rfl, rfl⟩, L16⟩
    cases hf
    exact XR.reti rfl rfl (fun hret => ⟨_, hret, ⟨rfl, rfl⟩, L16⟩)
  replace hf := xi_neg hf qs7_3
  by_cases qs7_4 : (hi h 1255 6) = 5
  · replace hf := xi_pos hf qs7_4
    refine XS.go (s_tswI (tgt := 40) rfl (by rw [qs7_4]; decide) (by rw [qs7_4]; decide) (by rw [qs7_4]; rfl) rfl) ?_
    exact XR.forget (L2 := [some (.ref 1255)]) ⟨rfl, trivial⟩ (kb_r_enterPart_40 L0 hf)
  replace hf := xi_neg hf qs7_4
  have qs7_o : ((hi h 1255 6)).toInt < 1 ∨ 5 < ((hi h 1255 6)).toInt := by
    refine tsw_out 1 5 (by decide) ?_
    intro k h1 h2
    have z : k = 1 ∨ k = 2 ∨ k = 3 ∨ k = 4 ∨ k = 5 := by omega
    rcases z with rfl | rfl | rfl | rfl | rfl
    · exact qs7_0
    · exact qs7_1
    · exact qs7_2
    · exact qs7_3
    · exact qs7_4
  refine XS.go (s_tswO (tgt := 105) rfl qs7_o rfl) ?_
  refine XS.go (s_iconst (v := (-1)) rfl rfl) ?_
  cases hf
  exact XR.reti rfl rfl (fun hret => ⟨_, hret, ⟨rfl, rfl⟩, L0⟩)
def f_w_add (t : Nat) (a0 : Int64) (h : XH) : Option (Int32 × XH) := (if t < hz h ∧ hk h t = 10 then (if (hi h t 1) < 0 then (some ((-1), h)) else (Option.bind (hr h t 0) fun b3 => (if b3 < hz h ∧ hk h b3 = 101 then (if (hi h t 1) < (nI (hn h b3)) then (if 0 ≤ (hi h t 1) ∧ (hi h t 1) < nI (hn h b3) ∧ (hn h b3) < 2 ^ 31 then (some (((hi h t 1) + 1), (hsi (hsj h b3 (Int32.toNatClampNeg (hi h t 1)) a0) t 1 ((hi h t 1) + 1)))) else none) else (some ((-1), h))) else none))) else none)
set_option maxRecDepth 20000 in
theorem kf_w_add {l : Launch} {G : XG} {d : Nat} {t : Nat} {a0 : Int64} {h : XH} {r : Int32 × XH} (L0 : LY h) (hf : f_w_add t a0 h = some r) : XC l G xEX10_add d [.ref t, .long a0] h (fun v h2 => (h2 = r.2 ∧ v = some (.int r.1)) ∧ LY r.2) := by
  refine XC.virt xvX10_add (Nat.le_of_ble_eq_true rfl) ?_
  unfold f_w_add at hf
  refine XR.norm (L3 := [some (.ref t), some (.long a0), none]) rfl ?_
  refine XS.go (s_aloadn rfl rfl rfl) ?_
  replace hf := xi_none hf
  obtain ⟨qk1, hf⟩ := hf
  refine XS.go (s_getie rfl xf10_15 qk1.1 qk1.2 (by decide) rfl rfl) ?_
  refine r_if_lt (tgt := 19) rfl rfl (fun qc2 => ?_) (fun qc2 => ?_)
  · replace hf := xi_pos hf qc2
    refine XS.go (s_iconst (v := (-1)) rfl rfl) ?_
    cases hf
    exact XR.reti rfl rfl (fun hret => ⟨_, hret, ⟨rfl, rfl⟩, L0⟩)
  · replace hf := xi_neg hf qc2
    refine XS.go (s_aloadn rfl rfl rfl) ?_
    refine XS.go (s_getie rfl xf10_15 qk1.1 qk1.2 (by decide) rfl rfl) ?_
    refine XS.go (s_aloadn rfl rfl rfl) ?_
    replace hf := xb_some hf
    obtain ⟨b3, qr4, hf⟩ := hf
    refine XS.go (s_getr rfl xf10_9 qk1.1 qk1.2 (by decide) rfl qr4) ?_
    replace hf := xi_none hf
    obtain ⟨qk5, hf⟩ := hf
    refine XS.go (s_alene (N := hn h b3) rfl qk5.1 qk5.2 rfl (by decide)) ?_
    refine r_icmp_lt (tgt := 21) rfl rfl (fun qc6 => ?_) (fun qc6 => ?_)
    · replace hf := xi_pos hf qc6
      refine XS.go (s_aloadn rfl rfl rfl) ?_
      refine XS.go (s_getr rfl xf10_9 qk1.1 qk1.2 (by decide) rfl qr4) ?_
      refine XS.go (s_aloadn rfl rfl rfl) ?_
      refine XS.go (s_getie rfl xf10_15 qk1.1 qk1.2 (by decide) rfl rfl) ?_
      refine XS.go (s_lloadn rfl rfl rfl) ?_
      replace hf := xi_none hf
      obtain ⟨qk7, hf⟩ := hf
      refine XS.go (s_last rfl qk5.1 qk5.2 (inLit (N := hn h b3) rfl qk7.1 qk7.2.1 qk7.2.2)) ?_
      refine XS.go (s_aloadn rfl rfl rfl) ?_
      refine XS.go (s_dup rfl rfl) ?_
      refine XS.go (s_getie rfl xf10_15 (show t < hz _ by simp only [hz_hsi, hk_hsi, hz_hsj, hk_hsj]; exact qk1.1) (by simp only [hz_hsi, hk_hsi, hz_hsj, hk_hsj]; exact qk1.2) (by decide) rfl (congrFun hi_hsj _)) ?_
      refine XS.go (s_iconst (v := 1) rfl rfl) ?_
      refine XS.go (s_iadd rfl) ?_
      refine XS.go (s_puti rfl xf10_15 (show t < hz _ by simp only [hz_hsi, hk_hsi, hz_hsj, hk_hsj]; exact qk1.1) (by simp only [hz_hsi, hk_hsi, hz_hsj, hk_hsj]; exact qk1.2) (by decide) rfl (Or.inl rfl)) ?_
      refine XS.go (s_aloadn rfl rfl rfl) ?_
      refine XS.go (s_getie rfl xf10_15 (show t < hz _ by simp only [hz_hsi, hk_hsi, hz_hsj, hk_hsj]; exact qk1.1) (by simp only [hz_hsi, hk_hsi, hz_hsj, hk_hsj]; exact qk1.2) (by decide) rfl hi_hsi_eq) ?_
      cases hf
      exact XR.reti rfl rfl (fun hret => ⟨_, hret, ⟨rfl, rfl⟩, (by simp only [LY_si, LY_sj]; exact L0)⟩)
    · replace hf := xi_neg hf qc6
      refine XS.go (s_iconst (v := (-1)) rfl rfl) ?_
      cases hf
      exact XR.reti rfl rfl (fun hret => ⟨_, hret, ⟨rfl, rfl⟩, L0⟩)
def f_w_takeAll (t : Nat) (h : XH) : Option (Int32 × XH) := (if t < hz h ∧ hk h t = 10 then (some ((hi h t 1), (hsi h t 1 0))) else none)
set_option maxRecDepth 20000 in
theorem kf_w_takeAll {l : Launch} {G : XG} {d : Nat} {t : Nat} {h : XH} {r : Int32 × XH} (L0 : LY h) (hf : f_w_takeAll t h = some r) : XC l G xEX10_takeAll d [.ref t] h (fun v h2 => (h2 = r.2 ∧ v = some (.int r.1)) ∧ LY r.2) := by
  refine XC.virt xvX10_takeAll (Nat.le_of_ble_eq_true rfl) ?_
  unfold f_w_takeAll at hf
  refine XR.norm (L3 := [some (.ref t), none]) rfl ?_
  refine XS.go (s_aloadn rfl rfl rfl) ?_
  replace hf := xi_none hf
  obtain ⟨qk1, hf⟩ := hf
  refine XS.go (s_getie rfl xf10_15 qk1.1 qk1.2 (by decide) rfl rfl) ?_
  refine XS.go (XS.lcl (L3 := [some (.ref t), some (.int (hi h t 1))]) (s_istoren rfl rfl (Nat.le_of_ble_eq_true rfl)) rfl) ?_
  refine XS.go (s_aloadn rfl rfl rfl) ?_
  refine XS.go (s_iconst (v := 0) rfl rfl) ?_
  refine XS.go (s_puti rfl xf10_15 qk1.1 qk1.2 (by decide) rfl (Or.inl rfl)) ?_
  refine XS.go (s_iloadn rfl rfl rfl) ?_
  cases hf
  exact XR.reti rfl rfl (fun hret => ⟨_, hret, ⟨rfl, rfl⟩, (by simp only [LY_si, LY_sj]; exact L0)⟩)
def s_t_feedOne_3 (K3 : Int32 → Int32 → XH → Option (Unit × XH)) (x1 : Int32) (x2 : Int32) (h : XH) : Option (Unit × XH) := (if x2 < 0 then (some ((), h)) else (Option.bind (f_b_putOctet 1 (hi h 1 1) (((Int32.toUInt32 x1) >>> ((Int32.toUInt32 x2) &&& Int32.toUInt32 31)).toInt32) h) fun r2 => (K3 x1 (x2 + (-8)) (hsi r2.2 1 1 ((hi r2.2 1 1) + 1)))))
set_option maxRecDepth 20000 in
theorem ks_t_feedOne_3 {l : Launch} {G : XG} {d : Nat} {K3 : Int32 → Int32 → XH → Option (Unit × XH)} {x1 : Int32} {x2 : Int32} {h : XH} {r : Unit × XH} (hK3 : ∀ (x1 : Int32) (x2 : Int32) (h : XH), LY h → K3 x1 x2 h = some r → XR l G xEX11_feedOne (d + 1) (3, [some (.ref 0), some (.int x1), some (.int x2)], [], h) (fun C => ∃ v, xRet xEX11_feedOne C v ∧ (C.2.2.2 = r.2 ∧ v = none) ∧ LY r.2)) (L0 : LY h) (hf : s_t_feedOne_3 K3 x1 x2 h = some r) : XR l G xEX11_feedOne (d + 1) (3, [some (.ref 0), some (.int x1), some (.int x2)], [], h) (fun C => ∃ v, xRet xEX11_feedOne C v ∧ (C.2.2.2 = r.2 ∧ v = none) ∧ LY r.2) := by
  unfold s_t_feedOne_3 at hf
  refine XS.go (s_iloadn rfl rfl rfl) ?_
  refine r_if_lt (tgt := 43) rfl rfl (fun qc1 => ?_) (fun qc1 => ?_)
  · replace hf := xi_pos hf qc1
    cases hf
    exact XR.retv rfl rfl (fun hret => ⟨_, hret, ⟨rfl, rfl⟩, L0⟩)
  · replace hf := xi_neg hf qc1
    refine XS.go (s_aloadn rfl rfl rfl) ?_
    refine XS.go (s_getr rfl xf11_10 (LY.lt L0 (by decide)) (LY.k0 L0) (by decide) rfl (LY.r0_0 L0)) ?_
    refine XS.go (s_aloadn rfl rfl rfl) ?_
    refine XS.go (s_getr rfl xf11_10 (LY.lt L0 (by decide)) (LY.k0 L0) (by decide) rfl (LY.r0_0 L0)) ?_
    refine XS.go (s_getie rfl xf11_73 (LY.lt L0 (by decide)) (LY.k1 L0) (by decide) rfl rfl) ?_
    refine XS.go (s_iloadn rfl rfl rfl) ?_
    refine XS.go (s_iloadn rfl rfl rfl) ?_
    refine XS.go (s_iushr rfl) ?_
    replace hf := xb_some hf
    obtain ⟨r2, e3, hf⟩ := hf
    refine r_callv rfl xvX1_putOctet xm11_80 (kf_b_putOctet (d := d) L0 e3) (LY.lt L0 (by decide)) (LY.k1 L0) (by decide) rfl rfl (dl0 (by decide)) (by decide) (Nat.le_of_ble_eq_true rfl) ?_
    rintro _ _ ⟨⟨rfl, rfl⟩, L4⟩
    refine XS.go (s_aloadn rfl rfl rfl) ?_
    refine XS.go (s_getr rfl xf11_10 (LY.lt L4 (by decide)) (LY.k0 L4) (by decide) rfl (LY.r0_0 L4)) ?_
    refine XS.go (s_dup rfl rfl) ?_
    refine XS.go (s_getie rfl xf11_73 (LY.lt L4 (by decide)) (LY.k1 L4) (by decide) rfl rfl) ?_
    refine XS.go (s_iconst (v := 1) rfl rfl) ?_
    refine XS.go (s_iadd rfl) ?_
    refine XS.go (s_puti rfl xf11_73 (LY.lt L4 (by decide)) (LY.k1 L4) (by decide) rfl (Or.inl rfl)) ?_
    refine XS.go (XS.lcl (L3 := [some (.ref 0), some (.int x1), some (.int (x2 + (-8)))]) (s_iinc (v := x2 + (-8)) rfl rfl rfl (Nat.le_of_ble_eq_true rfl)) rfl) ?_
    refine XS.go (s_goto (tgt := 3) rfl rfl) ?_
    exact XR.forget (L2 := [some (.ref 0), some (.int x1), some (.int (x2 + (-8)))]) ⟨rfl, ⟨rfl, ⟨rfl, trivial⟩⟩⟩ (hK3 x1 (x2 + (-8)) _ (by simp only [LY_si, LY_sj]; exact L4) hf)
def b_t_feedOne_3 : Nat → Int32 → Int32 → XH → Option (Unit × XH)
  | 0, _, _, _ => none
  | n + 1, x1, x2, h => s_t_feedOne_3 (b_t_feedOne_3 n) x1 x2 h
theorem kb_t_feedOne_3 {l : Launch} {G : XG} {d : Nat} {n : Nat} {x1 : Int32} {x2 : Int32} {h : XH} {r : Unit × XH} (L0 : LY h) (hf : b_t_feedOne_3 n x1 x2 h = some r) : XR l G xEX11_feedOne (d + 1) (3, [some (.ref 0), some (.int x1), some (.int x2)], [], h) (fun C => ∃ v, xRet xEX11_feedOne C v ∧ (C.2.2.2 = r.2 ∧ v = none) ∧ LY r.2) := by
  induction n generalizing x1 x2 h with
  | zero => cases hf
  | succ n ih => exact ks_t_feedOne_3 (fun x1 x2 h L0 hf => ih (h := h) (x1 := x1) (x2 := x2) L0 hf) L0 hf
def f_t_feedOne (a0 : Int32) (h : XH) : Option (Unit × XH) := (b_t_feedOne_3 100000 a0 24 h)
set_option maxRecDepth 20000 in
theorem kf_t_feedOne {l : Launch} {G : XG} {d : Nat} {a0 : Int32} {h : XH} {r : Unit × XH} (L0 : LY h) (hf : f_t_feedOne a0 h = some r) : XC l G xEX11_feedOne (d + 1) [.ref 0, .int a0] h (fun v h2 => (h2 = r.2 ∧ v = none) ∧ LY r.2) := by
  refine XC.virt xvX11_feedOne (Nat.le_of_ble_eq_true rfl) ?_
  unfold f_t_feedOne at hf
  refine XR.norm (L3 := [some (.ref 0), some (.int a0), none]) rfl ?_
  refine XS.go (s_bipush (v := 24) rfl rfl) ?_
  refine XS.go (XS.lcl (L3 := [some (.ref 0), some (.int a0), some (.int 24)]) (s_istoren rfl rfl (Nat.le_of_ble_eq_true rfl)) rfl) ?_
  exact XR.forget (L2 := [some (.ref 0), some (.int a0), some (.int 24)]) ⟨rfl, ⟨rfl, ⟨rfl, trivial⟩⟩⟩ (kb_t_feedOne_3 L0 hf)
def f_t_feed (a0 : Int32) (a1 : Int32) (a2 : Int32) (a3 : Int32) (a4 : Int32) (h : XH) : Option (Int32 × XH) := (if ((hi h 1 1) + 20) ≤ 4000 then (Option.bind (f_t_feedOne a0 h) fun r2 => (Option.bind (f_t_feedOne a1 r2.2) fun r5 => (Option.bind (f_t_feedOne a2 r5.2) fun r8 => (Option.bind (f_t_feedOne a3 r8.2) fun r11 => (Option.bind (f_t_feedOne a4 r11.2) fun r14 => (some ((hi r14.2 1 1), r14.2))))))) else (some ((-1), h)))
set_option maxRecDepth 20000 in
theorem kf_t_feed {l : Launch} {G : XG} {d : Nat} {a0 : Int32} {a1 : Int32} {a2 : Int32} {a3 : Int32} {a4 : Int32} {h : XH} {r : Int32 × XH} (L0 : LY h) (hf : f_t_feed a0 a1 a2 a3 a4 h = some r) : XC l G xEX11_feed (d + 2) [.ref 0, .int a0, .int a1, .int a2, .int a3, .int a4] h (fun v h2 => (h2 = r.2 ∧ v = some (.int r.1)) ∧ LY r.2) := by
  refine XC.virt xvX11_feed (Nat.le_of_ble_eq_true rfl) ?_
  unfold f_t_feed at hf
  refine XR.norm (L3 := [some (.ref 0), some (.int a0), some (.int a1), some (.int a2), some (.int a3), some (.int a4)]) rfl ?_
  refine XS.go (s_aloadn rfl rfl rfl) ?_
  refine XS.go (s_getr rfl xf11_10 (LY.lt L0 (by decide)) (LY.k0 L0) (by decide) rfl (LY.r0_0 L0)) ?_
  refine XS.go (s_getie rfl xf11_73 (LY.lt L0 (by decide)) (LY.k1 L0) (by decide) rfl rfl) ?_
  refine XS.go (s_bipush (v := 20) rfl rfl) ?_
  refine XS.go (s_iadd rfl) ?_
  refine XS.go (s_sipush (v := 4000) rfl rfl) ?_
  refine r_icmp_le (tgt := 18) rfl rfl (fun qc1 => ?_) (fun qc1 => ?_)
  · replace hf := xi_pos hf qc1
    refine XS.go (s_aloadn rfl rfl rfl) ?_
    refine XS.go (s_iloadn rfl rfl rfl) ?_
    replace hf := xb_some hf
    obtain ⟨r2, e3, hf⟩ := hf
    refine r_callv rfl xvX11_feedOne xm11_76 (kf_t_feedOne (d := d) L0 e3) (LY.lt L0 (by decide)) (LY.k0 L0) (by decide) rfl rfl (dl (by decide)) (by decide) (Nat.le_of_ble_eq_true rfl) ?_
    rintro _ _ ⟨⟨rfl, rfl⟩, L4⟩
    refine XS.go (s_aloadn rfl rfl rfl) ?_
    refine XS.go (s_iloadn rfl rfl rfl) ?_
    replace hf := xb_some hf
    obtain ⟨r5, e6, hf⟩ := hf
    refine r_callv rfl xvX11_feedOne xm11_76 (kf_t_feedOne (d := d) L4 e6) (LY.lt L4 (by decide)) (LY.k0 L4) (by decide) rfl rfl (dl (by decide)) (by decide) (Nat.le_of_ble_eq_true rfl) ?_
    rintro _ _ ⟨⟨rfl, rfl⟩, L7⟩
    refine XS.go (s_aloadn rfl rfl rfl) ?_
    refine XS.go (s_iloadn rfl rfl rfl) ?_
    replace hf := xb_some hf
    obtain ⟨r8, e9, hf⟩ := hf
    refine r_callv rfl xvX11_feedOne xm11_76 (kf_t_feedOne (d := d) L7 e9) (LY.lt L7 (by decide)) (LY.k0 L7) (by decide) rfl rfl (dl (by decide)) (by decide) (Nat.le_of_ble_eq_true rfl) ?_
    rintro _ _ ⟨⟨rfl, rfl⟩, L10⟩
    refine XS.go (s_aloadn rfl rfl rfl) ?_
    refine XS.go (s_iload rfl rfl) ?_
    replace hf := xb_some hf
    obtain ⟨r11, e12, hf⟩ := hf
    refine r_callv rfl xvX11_feedOne xm11_76 (kf_t_feedOne (d := d) L10 e12) (LY.lt L10 (by decide)) (LY.k0 L10) (by decide) rfl rfl (dl (by decide)) (by decide) (Nat.le_of_ble_eq_true rfl) ?_
    rintro _ _ ⟨⟨rfl, rfl⟩, L13⟩
    refine XS.go (s_aloadn rfl rfl rfl) ?_
    refine XS.go (s_iload rfl rfl) ?_
    replace hf := xb_some hf
    obtain ⟨r14, e15, hf⟩ := hf
    refine r_callv rfl xvX11_feedOne xm11_76 (kf_t_feedOne (d := d) L13 e15) (LY.lt L13 (by decide)) (LY.k0 L13) (by decide) rfl rfl (dl (by decide)) (by decide) (Nat.le_of_ble_eq_true rfl) ?_
    rintro _ _ ⟨⟨rfl, rfl⟩, L16⟩
    refine XS.go (s_aloadn rfl rfl rfl) ?_
    refine XS.go (s_getr rfl xf11_10 (LY.lt L16 (by decide)) (LY.k0 L16) (by decide) rfl (LY.r0_0 L16)) ?_
    refine XS.go (s_getie rfl xf11_73 (LY.lt L16 (by decide)) (LY.k1 L16) (by decide) rfl rfl) ?_
    cases hf
    exact XR.reti rfl rfl (fun hret => ⟨_, hret, ⟨rfl, rfl⟩, L16⟩)
  · replace hf := xi_neg hf qc1
    refine XS.go (s_iconst (v := (-1)) rfl rfl) ?_
    cases hf
    exact XR.reti rfl rfl (fun hret => ⟨_, hret, ⟨rfl, rfl⟩, L0⟩)
def f_t_end (a0 : Int32) (h : XH) : Option (Int32 × XH) := (if a0 < 0 then (some (0, h)) else (if a0 ≤ (hi h 1 1) then (some (1, (hsi h 1 1 a0))) else (some (0, h))))
set_option maxRecDepth 20000 in
theorem kf_t_end {l : Launch} {G : XG} {d : Nat} {a0 : Int32} {h : XH} {r : Int32 × XH} (L0 : LY h) (hf : f_t_end a0 h = some r) : XC l G xEX11_end d [.ref 0, .int a0] h (fun v h2 => (h2 = r.2 ∧ v = some (.int r.1)) ∧ LY r.2) := by
  refine XC.virt xvX11_end (Nat.le_of_ble_eq_true rfl) ?_
  unfold f_t_end at hf
  refine XR.norm (L3 := [some (.ref 0), some (.int a0)]) rfl ?_
  refine XS.go (s_iloadn rfl rfl rfl) ?_
  refine r_if_lt (tgt := 15) rfl rfl (fun qc1 => ?_) (fun qc1 => ?_)
  · replace hf := xi_pos hf qc1
    refine XS.go (s_iconst (v := 0) rfl rfl) ?_
    cases hf
    exact XR.retz rfl rfl (by decide) (fun hret => ⟨_, hret, ⟨rfl, rfl⟩, L0⟩)
  · replace hf := xi_neg hf qc1
    refine XS.go (s_iloadn rfl rfl rfl) ?_
    refine XS.go (s_aloadn rfl rfl rfl) ?_
    refine XS.go (s_getr rfl xf11_10 (LY.lt L0 (by decide)) (LY.k0 L0) (by decide) rfl (LY.r0_0 L0)) ?_
    refine XS.go (s_getie rfl xf11_73 (LY.lt L0 (by decide)) (LY.k1 L0) (by decide) rfl rfl) ?_
    refine r_icmp_le (tgt := 17) rfl rfl (fun qc2 => ?_) (fun qc2 => ?_)
    · replace hf := xi_pos hf qc2
      refine XS.go (s_aloadn rfl rfl rfl) ?_
      refine XS.go (s_getr rfl xf11_10 (LY.lt L0 (by decide)) (LY.k0 L0) (by decide) rfl (LY.r0_0 L0)) ?_
      refine XS.go (s_iloadn rfl rfl rfl) ?_
      refine XS.go (s_puti rfl xf11_73 (LY.lt L0 (by decide)) (LY.k1 L0) (by decide) rfl (Or.inl rfl)) ?_
      refine XS.go (s_iconst (v := 1) rfl rfl) ?_
      cases hf
      exact XR.retz rfl rfl (by decide) (fun hret => ⟨_, hret, ⟨rfl, rfl⟩, (by simp only [LY_si, LY_sj]; exact L0)⟩)
    · replace hf := xi_neg hf qc2
      refine XS.go (s_iconst (v := 0) rfl rfl) ?_
      cases hf
      exact XR.retz rfl rfl (by decide) (fun hret => ⟨_, hret, ⟨rfl, rfl⟩, L0⟩)
def f_t_schema (h : XH) : Option (Sum Int32 Nat × XH) := (Option.bind (f_x_takeAll 1 h) fun r1 => (if hz (hsi r1.2 1 1 0) < 1000000 then (Option.bind (hr (hnew (hsi r1.2 1 1 0) 7 9) 0 5) fun b6 => (if (hz (hsi r1.2 1 1 0)) < hz (hnew (hsi r1.2 1 1 0) 7 9) ∧ hk (hnew (hsi r1.2 1 1 0) 7 9) (hz (hsi r1.2 1 1 0)) = 7 then (Option.bind (f_p_init (hz (hsi r1.2 1 1 0)) 7 b6 (hnew (hsi r1.2 1 1 0) 7 9)) fun r9 => (if (hz (hsi r1.2 1 1 0)) < hz r9.2 ∧ hk r9.2 (hz (hsi r1.2 1 1 0)) = 7 then (Option.bind (f_p_parse (hz (hsi r1.2 1 1 0)) r9.2) fun r13 => (if (hz (hsi r1.2 1 1 0)) < hz r13.2 ∧ hk r13.2 (hz (hsi r1.2 1 1 0)) = 7 then (if ¬ r13.1 = 0 then (Option.bind (hr r13.2 0 4) fun b18 => (Option.bind (hr r13.2 0 5) fun b20 => (Option.bind (f_u_empty (hsr (hsr (hsi (hsi r13.2 0 8 (hi r13.2 (hz (hsi r1.2 1 1 0)) 7)) 0 9 (hi (hsi r13.2 0 8 (hi r13.2 (hz (hsi r1.2 1 1 0)) 7)) (hz (hsi r1.2 1 1 0)) 8)) 0 4 (some b20)) 0 5 (some b18))) fun r24 => (Option.bind (f_r_drop r24.2) fun r27 => (Option.bind (hr r27.2 0 4) fun b30 => (if b30 < hz r27.2 ∧ hk r27.2 b30 = 9 then (Option.bind (hr r27.2 b30 1) fun b33 => (if b33 < hz r27.2 ∧ hk r27.2 b33 = 4 then (some (Sum.inl (hi r27.2 b33 1), r27.2)) else none)) else none)))))) else (if hz (hsi (hsi r13.2 0 8 (hi r13.2 (hz (hsi r1.2 1 1 0)) 7)) 0 9 (hi (hsi r13.2 0 8 (hi r13.2 (hz (hsi r1.2 1 1 0)) 7)) (hz (hsi r1.2 1 1 0)) 8)) < 1000000 then (some (Sum.inr 0, hthr (hsi (hsi r13.2 0 8 (hi r13.2 (hz (hsi r1.2 1 1 0)) 7)) 0 9 (hi (hsi r13.2 0 8 (hi r13.2 (hz (hsi r1.2 1 1 0)) 7)) (hz (hsi r1.2 1 1 0)) 8)))) else none)) else none)) else none)) else none)) else none))
set_option maxRecDepth 20000 in
theorem kf_t_schema {l : Launch} {G : XG} {d : Nat} {h : XH} {r : Sum Int32 Nat × XH} (hl : l.stackTraces = false) (L0 : LY h) (hf : f_t_schema h = some r) : (∃ x, r.1 = Sum.inl x ∧ XC l G xEX11_schema (d + 8) [.ref 0] h (fun v h2 => (h2 = r.2 ∧ v = some (.int x)) ∧ LY r.2)) ∨ ∃ k E, r.1 = Sum.inr k ∧ xXs[k]? = some E ∧ XCx l G xEX11_schema (d + 8) [.ref 0] h E (fun h2 => h2 = r.2 ∧ LY r.2) := by
  refine xe_of (R := Int32) (V := fun x => some (.int x)) hl xvX11_schema rfl (Nat.le_of_ble_eq_true rfl) (by omega) ?_
  unfold f_t_schema at hf
  refine XR.norm (L3 := [some (.ref 0), none, none, none]) rfl ?_
  refine XS.go (s_aloadn rfl rfl rfl) ?_
  refine XS.go (s_getr rfl xf11_29 (LY.lt L0 (by decide)) (LY.k0 L0) (by decide) rfl (LY.r0_3 L0)) ?_
  refine XS.go (s_aloadn rfl rfl rfl) ?_
  refine XS.go (s_getr rfl xf11_10 (LY.lt L0 (by decide)) (LY.k0 L0) (by decide) rfl (LY.r0_0 L0)) ?_
  replace hf := xb_some hf
  obtain ⟨r1, e2, hf⟩ := hf
  refine r_callv rfl xvX6_takeAll xm11_84 (kf_x_takeAll (d := d) L0 e2) (LY.lt L0 (by decide)) (LY.k7 L0) (by decide) rfl rfl (dl (by decide)) (by decide) (Nat.le_of_ble_eq_true rfl) ?_
  rintro _ _ ⟨⟨rfl, rfl⟩, L3⟩
  refine XS.go (s_aloadn rfl rfl rfl) ?_
  refine XS.go (s_getr rfl xf11_10 (LY.lt L3 (by decide)) (LY.k0 L3) (by decide) rfl (LY.r0_0 L3)) ?_
  refine XS.go (s_iconst (v := 0) rfl rfl) ?_
  refine XS.go (s_puti rfl xf11_73 (LY.lt L3 (by decide)) (LY.k1 L3) (by decide) rfl (Or.inl rfl)) ?_
  replace hf := xi_none hf
  obtain ⟨qk4, hf⟩ := hf
  have L5 : LY (hnew (hsi r1.2 1 1 0) 7 9) := LY.new (by simp only [LY_si, LY_sj]; exact L3) qk4
  refine XS.go (s_new (ci := 7) rfl (lg_4 236 rfl rfl) (by decide) rfl qk4) ?_
  refine XS.go (s_dup rfl rfl) ?_
  refine XS.go (s_aloadn rfl rfl rfl) ?_
  refine XS.go (s_getr rfl xf11_29 (LY.lt L5 (by decide)) (LY.k0 L5) (by decide) rfl (LY.r0_3 L5)) ?_
  refine XS.go (s_aloadn rfl rfl rfl) ?_
  replace hf := xb_some hf
  obtain ⟨b6, qr7, hf⟩ := hf
  refine XS.go (s_getr rfl xf11_40 (LY.lt L5 (by decide)) (LY.k0 L5) (by decide) rfl qr7) ?_
  replace hf := xi_none hf
  obtain ⟨qk8, hf⟩ := hf
  replace hf := xb_some hf
  obtain ⟨r9, e10, hf⟩ := hf
  refine r_calli rfl xnX7_init rfl xm11_90 (kf_p_init (d := d) L5 e10) rfl rfl (dl (by decide)) (by decide) (Nat.le_of_ble_eq_true rfl) ?_
  rintro _ _ ⟨⟨rfl, rfl⟩, L11⟩
  refine XS.go (XS.lcl (L3 := [some (.ref 0), some (.ref (hz (hsi r1.2 1 1 0))), none, none]) (s_astoren rfl rfl (Nat.le_of_ble_eq_true rfl)) rfl) ?_
  refine XS.go (s_aloadn rfl rfl rfl) ?_
  replace hf := xi_none hf
  obtain ⟨qk12, hf⟩ := hf
  replace hf := xb_some hf
  obtain ⟨r13, e14, hf⟩ := hf
  refine r_callv rfl xvX7_parse xm11_93 (kf_p_parse (d := d) L11 e14) qk12.1 qk12.2 (by decide) rfl rfl (dl (by decide)) (by decide) (Nat.le_of_ble_eq_true rfl) ?_
  rintro _ _ ⟨⟨rfl, rfl⟩, L15⟩
  refine XS.go (XS.lcl (L3 := [some (.ref 0), some (.ref (hz (hsi r1.2 1 1 0))), some (.int r13.1), none]) (s_istoren rfl rfl (Nat.le_of_ble_eq_true rfl)) rfl) ?_
  refine XS.go (s_aloadn rfl rfl rfl) ?_
  refine XS.go (s_aloadn rfl rfl rfl) ?_
  replace hf := xi_none hf
  obtain ⟨qk16, hf⟩ := hf
  refine XS.go (s_getie rfl xf11_97 qk16.1 qk16.2 (by decide) rfl rfl) ?_
  refine XS.go (s_puti rfl xf11_57 (LY.lt L15 (by decide)) (LY.k0 L15) (by decide) rfl (Or.inl rfl)) ?_
  refine XS.go (s_aloadn rfl rfl rfl) ?_
  refine XS.go (s_aloadn rfl rfl rfl) ?_
  refine XS.go (s_getie rfl xf11_100 (show (hz (hsi r1.2 1 1 0)) < hz _ by simp only [hz_hsi, hk_hsi, hz_hsj, hk_hsj]; exact qk16.1) (by simp only [hz_hsi, hk_hsi, hz_hsj, hk_hsj]; exact qk16.2) (by decide) rfl rfl) ?_
  refine XS.go (s_puti rfl xf11_61 (LY.lt (by simp only [LY_si, LY_sj]; exact L15) (by decide)) (LY.k0 (by simp only [LY_si, LY_sj]; exact L15)) (by decide) rfl (Or.inl rfl)) ?_
  refine XS.go (s_iloadn rfl rfl rfl) ?_
  refine r_if_ne (tgt := 70) rfl rfl (fun qc17 => ?_) (fun qc17 => ?_)
  · replace hf := xi_pos hf qc17
    refine XS.go (s_aloadn rfl rfl rfl) ?_
    replace hf := xb_some hf
    obtain ⟨b18, qr19, hf⟩ := hf
    refine XS.go (s_getr rfl xf11_36 (LY.lt (by simp only [LY_si, LY_sj]; exact L15) (by decide)) (LY.k0 (by simp only [LY_si, LY_sj]; exact L15)) (by decide) rfl (by simp only [hr_hsi, hr_hsj]; exact qr19)) ?_
    refine XS.go (XS.lcl (L3 := [some (.ref 0), some (.ref (hz (hsi r1.2 1 1 0))), some (.int r13.1), some (.ref b18)]) (s_astoren rfl rfl (Nat.le_of_ble_eq_true rfl)) rfl) ?_
    refine XS.go (s_aloadn rfl rfl rfl) ?_
    refine XS.go (s_aloadn rfl rfl rfl) ?_
    replace hf := xb_some hf
    obtain ⟨b20, qr21, hf⟩ := hf
    refine XS.go (s_getr rfl xf11_40 (LY.lt (by simp only [LY_si, LY_sj]; exact L15) (by decide)) (LY.k0 (by simp only [LY_si, LY_sj]; exact L15)) (by decide) rfl (by simp only [hr_hsi, hr_hsj]; exact qr21)) ?_
    have L22 : LY (hsr (hsi (hsi r13.2 0 8 (hi r13.2 (hz (hsi r1.2 1 1 0)) 7)) 0 9 (hi (hsi r13.2 0 8 (hi r13.2 (hz (hsi r1.2 1 1 0)) 7)) (hz (hsi r1.2 1 1 0)) 8)) 0 4 (some b20)) := LY.sr4 (by simp only [LY_si, LY_sj]; exact L15)
    refine XS.go (s_putr rfl xf11_36 (LY.lt (by simp only [LY_si, LY_sj]; exact L15) (by decide)) (LY.k0 (by simp only [LY_si, LY_sj]; exact L15)) (by decide) rfl (Or.inl rfl)) ?_
    refine XS.go (s_aloadn rfl rfl rfl) ?_
    refine XS.go (s_aloadn rfl rfl rfl) ?_
    have L23 : LY (hsr (hsr (hsi (hsi r13.2 0 8 (hi r13.2 (hz (hsi r1.2 1 1 0)) 7)) 0 9 (hi (hsi r13.2 0 8 (hi r13.2 (hz (hsi r1.2 1 1 0)) 7)) (hz (hsi r1.2 1 1 0)) 8)) 0 4 (some b20)) 0 5 (some b18)) := LY.sr5 L22
    refine XS.go (s_putr rfl xf11_40 (LY.lt L22 (by decide)) (LY.k0 L22) (by decide) rfl (Or.inl rfl)) ?_
    refine XS.go (s_aloadn rfl rfl rfl) ?_
    refine XS.go (s_getr rfl xf11_46 (LY.lt L23 (by decide)) (LY.k0 L23) (by decide) rfl (LY.r0_6 L23)) ?_
    replace hf := xb_some hf
    obtain ⟨r24, e25, hf⟩ := hf
    refine r_callv rfl xvX0_empty xm11_110 (kf_u_empty (d := d) L23 e25) (LY.lt L23 (by decide)) (LY.k1244 L23) (by decide) rfl rfl (dl0 (by decide)) (by decide) (Nat.le_of_ble_eq_true rfl) ?_
    rintro _ _ ⟨⟨rfl, rfl⟩, L26⟩
    refine XS.go (s_aloadn rfl rfl rfl) ?_
    refine XS.go (s_getr rfl xf11_53 (LY.lt L26 (by decide)) (LY.k0 L26) (by decide) rfl (LY.r0_7 L26)) ?_
    replace hf := xb_some hf
    obtain ⟨r27, e28, hf⟩ := hf
    refine r_callv rfl xvX8_drop xm11_113 (kf_r_drop (d := d) L26 e28) (LY.lt L26 (by decide)) (LY.k1255 L26) (by decide) rfl rfl (dl0 (by decide)) (by decide) (Nat.le_of_ble_eq_true rfl) ?_
    rintro _ _ ⟨⟨rfl, rfl⟩, L29⟩
    refine XS.go (s_aloadn rfl rfl rfl) ?_
    replace hf := xb_some hf
    obtain ⟨b30, qr31, hf⟩ := hf
    refine XS.go (s_getr rfl xf11_36 (LY.lt L29 (by decide)) (LY.k0 L29) (by decide) rfl qr31) ?_
    replace hf := xi_none hf
    obtain ⟨qk32, hf⟩ := hf
    replace hf := xb_some hf
    obtain ⟨b33, qr34, hf⟩ := hf
    refine XS.go (s_getr rfl xf11_116 qk32.1 qk32.2 (by decide) rfl qr34) ?_
    replace hf := xi_none hf
    obtain ⟨qk35, hf⟩ := hf
    refine XS.go (s_getie rfl xf11_120 qk35.1 qk35.2 (by decide) rfl rfl) ?_
    cases hf
    exact XR.reti rfl rfl (fun hret => Or.inl ⟨_, hret, ⟨rfl, ⟨_, rfl, rfl⟩⟩, L29⟩)
  · replace hf := xi_neg hf qc17
    replace hf := xi_none hf
    obtain ⟨qk36, hf⟩ := hf
    cases hf
    exact XR.here (Or.inr ⟨0, _, rfl, rfl, ⟨103, 105, 107, 18, _, rfl, xthr0, ⟨⟨rfl, rfl, rfl⟩, Or.inl ⟨rfl, rfl, rfl⟩⟩, qk36⟩, rfl, LY.new (by simp only [LY_si, LY_sj]; exact L15) qk36⟩)
def f_t_fault (a0 : Int32) (h : XH) : Option (Int32 × XH) := (if a0 = 0 then (some ((hi h 0 8), h)) else (if a0 = 1 then (some ((hi h 0 9), h)) else (if a0 = 2 then (some ((hi h 0 10), h)) else (if a0 = 3 then (some ((hi h 0 11), h)) else (some ((-1), h))))))
set_option maxRecDepth 20000 in
theorem kf_t_fault {l : Launch} {G : XG} {d : Nat} {a0 : Int32} {h : XH} {r : Int32 × XH} (L0 : LY h) (hf : f_t_fault a0 h = some r) : XC l G xEX11_fault d [.ref 0, .int a0] h (fun v h2 => (h2 = r.2 ∧ v = some (.int r.1)) ∧ LY r.2) := by
  refine XC.virt xvX11_fault (Nat.le_of_ble_eq_true rfl) ?_
  unfold f_t_fault at hf
  refine XR.norm (L3 := [some (.ref 0), some (.int a0)]) rfl ?_
  refine XS.go (s_iloadn rfl rfl rfl) ?_
  by_cases qs1_0 : a0 = 0
  · replace hf := xi_pos hf qs1_0
    refine XS.go (s_tswI (tgt := 32) rfl (by rw [qs1_0]; decide) (by rw [qs1_0]; decide) (by rw [qs1_0]; rfl) rfl) ?_
    refine XS.go (s_aloadn rfl rfl rfl) ?_
    refine XS.go (s_getie rfl xf11_57 (LY.lt L0 (by decide)) (LY.k0 L0) (by decide) rfl rfl) ?_
    cases hf
    exact XR.reti rfl rfl (fun hret => ⟨_, hret, ⟨rfl, rfl⟩, L0⟩)
  replace hf := xi_neg hf qs1_0
  by_cases qs1_1 : a0 = 1
  · replace hf := xi_pos hf qs1_1
    refine XS.go (s_tswI (tgt := 37) rfl (by rw [qs1_1]; decide) (by rw [qs1_1]; decide) (by rw [qs1_1]; rfl) rfl) ?_
    refine XS.go (s_aloadn rfl rfl rfl) ?_
    refine XS.go (s_getie rfl xf11_61 (LY.lt L0 (by decide)) (LY.k0 L0) (by decide) rfl rfl) ?_
    cases hf
    exact XR.reti rfl rfl (fun hret => ⟨_, hret, ⟨rfl, rfl⟩, L0⟩)
  replace hf := xi_neg hf qs1_1
  by_cases qs1_2 : a0 = 2
  · replace hf := xi_pos hf qs1_2
    refine XS.go (s_tswI (tgt := 42) rfl (by rw [qs1_2]; decide) (by rw [qs1_2]; decide) (by rw [qs1_2]; rfl) rfl) ?_
    refine XS.go (s_aloadn rfl rfl rfl) ?_
    refine XS.go (s_getie rfl xf11_64 (LY.lt L0 (by decide)) (LY.k0 L0) (by decide) rfl rfl) ?_
    cases hf
    exact XR.reti rfl rfl (fun hret => ⟨_, hret, ⟨rfl, rfl⟩, L0⟩)
  replace hf := xi_neg hf qs1_2
  by_cases qs1_3 : a0 = 3
  · replace hf := xi_pos hf qs1_3
    refine XS.go (s_tswI (tgt := 47) rfl (by rw [qs1_3]; decide) (by rw [qs1_3]; decide) (by rw [qs1_3]; rfl) rfl) ?_
    refine XS.go (s_aloadn rfl rfl rfl) ?_
    refine XS.go (s_getie rfl xf11_67 (LY.lt L0 (by decide)) (LY.k0 L0) (by decide) rfl rfl) ?_
    cases hf
    exact XR.reti rfl rfl (fun hret => ⟨_, hret, ⟨rfl, rfl⟩, L0⟩)
  replace hf := xi_neg hf qs1_3
  have qs1_o : (a0).toInt < 0 ∨ 3 < (a0).toInt := by
    refine tsw_out 0 3 (by decide) ?_
    intro k h1 h2
    have z : k = 0 ∨ k = 1 ∨ k = 2 ∨ k = 3 := by omega
    rcases z with rfl | rfl | rfl | rfl
    · exact qs1_0
    · exact qs1_1
    · exact qs1_2
    · exact qs1_3
  refine XS.go (s_tswO (tgt := 52) rfl qs1_o rfl) ?_
  refine XS.go (s_iconst (v := (-1)) rfl rfl) ?_
  cases hf
  exact XR.reti rfl rfl (fun hret => ⟨_, hret, ⟨rfl, rfl⟩, L0⟩)
def f_t_memberCount (a0 : Option Nat) (h : XH) : Option (Int32 × XH) := (Option.elim (a0) (some ((-1), h)) fun b2 => (if b2 < hz h ∧ hk h b2 = 2 then (some ((hi h b2 3), h)) else none))
set_option maxRecDepth 20000 in
theorem kf_t_memberCount {l : Launch} {G : XG} {d : Nat} {a0 : Option Nat} {h : XH} {r : Int32 × XH} (L0 : LY h) (hf : f_t_memberCount a0 h = some r) : XC l G xEX11_memberCount d [va_rf a0] h (fun v h2 => (h2 = r.2 ∧ v = some (.int r.1)) ∧ LY r.2) := by
  refine XC.stat xsX11_memberCount (by cases a0 <;> exact Nat.le_of_ble_eq_true rfl) ?_
  unfold f_t_memberCount at hf
  refine XR.norm (L3 := [some (va_rf a0)]) (by cases a0 <;> rfl) ?_
  refine XS.go (s_aloadnO rfl rfl rfl) ?_
  refine r_ifnonnull (tgt := 8) rfl rfl (fun qn1 => ?_) (fun b2 qn1 => ?_)
  · replace hf := xo_none hf qn1
    try rw [qn1]
    refine XS.go (s_iconst (v := (-1)) rfl rfl) ?_
    refine XS.go (s_goto (tgt := 12) rfl rfl) ?_
    cases hf
    exact XR.reti rfl rfl (fun hret => ⟨_, hret, ⟨rfl, rfl⟩, L0⟩)
  · replace hf := xo_some hf qn1
    try rw [qn1]
    refine XS.go (s_aloadn rfl rfl rfl) ?_
    replace hf := xi_none hf
    obtain ⟨qk3, hf⟩ := hf
    refine XS.go (s_getie rfl xf11_149 qk3.1 qk3.2 (by decide) rfl rfl) ?_
    cases hf
    exact XR.reti rfl rfl (fun hret => ⟨_, hret, ⟨rfl, rfl⟩, L0⟩)
def f_t_structSize (a0 : Option Nat) (a1 : Int32) (h : XH) : Option (Int32 × XH) := (Option.elim (a0) (some ((-1), h)) fun b2 => (if ¬ a1 = 4 then (if ¬ a1 = 5 then (if b2 < hz h ∧ hk h b2 = 2 then (some ((hi h b2 7), h)) else none) else (if b2 < hz h ∧ hk h b2 = 2 then (some ((hi h b2 6), h)) else none)) else (if b2 < hz h ∧ hk h b2 = 2 then (some ((hi h b2 3), h)) else none)))
set_option maxRecDepth 20000 in
theorem kf_t_structSize {l : Launch} {G : XG} {d : Nat} {a0 : Option Nat} {a1 : Int32} {h : XH} {r : Int32 × XH} (L0 : LY h) (hf : f_t_structSize a0 a1 h = some r) : XC l G xEX11_structSize d [va_rf a0, .int a1] h (fun v h2 => (h2 = r.2 ∧ v = some (.int r.1)) ∧ LY r.2) := by
  refine XC.stat xsX11_structSize (by cases a0 <;> exact Nat.le_of_ble_eq_true rfl) ?_
  unfold f_t_structSize at hf
  refine XR.norm (L3 := [some (va_rf a0), some (.int a1)]) (by cases a0 <;> rfl) ?_
  refine XS.go (s_aloadnO rfl rfl rfl) ?_
  refine r_ifnonnull (tgt := 6) rfl rfl (fun qn1 => ?_) (fun b2 qn1 => ?_)
  · replace hf := xo_none hf qn1
    try rw [qn1]
    refine XS.go (s_iconst (v := (-1)) rfl rfl) ?_
    cases hf
    exact XR.reti rfl rfl (fun hret => ⟨_, hret, ⟨rfl, rfl⟩, L0⟩)
  · replace hf := xo_some hf qn1
    try rw [qn1]
    refine XS.go (s_iloadn rfl rfl rfl) ?_
    refine XS.go (s_iconst (v := 4) rfl rfl) ?_
    refine r_icmp_ne (tgt := 16) rfl rfl (fun qc3 => ?_) (fun qc3 => ?_)
    · replace hf := xi_pos hf qc3
      refine XS.go (s_iloadn rfl rfl rfl) ?_
      refine XS.go (s_iconst (v := 5) rfl rfl) ?_
      refine r_icmp_ne (tgt := 28) rfl rfl (fun qc4 => ?_) (fun qc4 => ?_)
      · replace hf := xi_pos hf qc4
        refine XS.go (s_aloadn rfl rfl rfl) ?_
        replace hf := xi_none hf
        obtain ⟨qk5, hf⟩ := hf
        refine XS.go (s_getie rfl xf11_157 qk5.1 qk5.2 (by decide) rfl rfl) ?_
        cases hf
        exact XR.reti rfl rfl (fun hret => ⟨_, hret, ⟨rfl, rfl⟩, L0⟩)
      · replace hf := xi_neg hf qc4
        refine XS.go (s_aloadn rfl rfl rfl) ?_
        replace hf := xi_none hf
        obtain ⟨qk6, hf⟩ := hf
        refine XS.go (s_getie rfl xf11_154 qk6.1 qk6.2 (by decide) rfl rfl) ?_
        refine XS.go (s_goto (tgt := 32) rfl rfl) ?_
        cases hf
        exact XR.reti rfl rfl (fun hret => ⟨_, hret, ⟨rfl, rfl⟩, L0⟩)
    · replace hf := xi_neg hf qc3
      refine XS.go (s_aloadn rfl rfl rfl) ?_
      replace hf := xi_none hf
      obtain ⟨qk7, hf⟩ := hf
      refine XS.go (s_getie rfl xf11_149 qk7.1 qk7.2 (by decide) rfl rfl) ?_
      cases hf
      exact XR.reti rfl rfl (fun hret => ⟨_, hret, ⟨rfl, rfl⟩, L0⟩)
def f_t_tableSize (a0 : Option Nat) (a1 : Int32) (h : XH) : Option (Int32 × XH) := (Option.elim (a0) (some ((-1), h)) fun b2 => (if ¬ a1 = 7 then (if b2 < hz h ∧ hk h b2 = 2 then (some ((hi h b2 8), h)) else none) else (if b2 < hz h ∧ hk h b2 = 2 then (some ((hi h b2 3), h)) else none)))
set_option maxRecDepth 20000 in
theorem kf_t_tableSize {l : Launch} {G : XG} {d : Nat} {a0 : Option Nat} {a1 : Int32} {h : XH} {r : Int32 × XH} (L0 : LY h) (hf : f_t_tableSize a0 a1 h = some r) : XC l G xEX11_tableSize d [va_rf a0, .int a1] h (fun v h2 => (h2 = r.2 ∧ v = some (.int r.1)) ∧ LY r.2) := by
  refine XC.stat xsX11_tableSize (by cases a0 <;> exact Nat.le_of_ble_eq_true rfl) ?_
  unfold f_t_tableSize at hf
  refine XR.norm (L3 := [some (va_rf a0), some (.int a1)]) (by cases a0 <;> rfl) ?_
  refine XS.go (s_aloadnO rfl rfl rfl) ?_
  refine r_ifnonnull (tgt := 6) rfl rfl (fun qn1 => ?_) (fun b2 qn1 => ?_)
  · replace hf := xo_none hf qn1
    try rw [qn1]
    refine XS.go (s_iconst (v := (-1)) rfl rfl) ?_
    cases hf
    exact XR.reti rfl rfl (fun hret => ⟨_, hret, ⟨rfl, rfl⟩, L0⟩)
  · replace hf := xo_some hf qn1
    try rw [qn1]
    refine XS.go (s_iloadn rfl rfl rfl) ?_
    refine XS.go (s_bipush (v := 7) rfl rfl) ?_
    refine r_icmp_ne (tgt := 19) rfl rfl (fun qc3 => ?_) (fun qc3 => ?_)
    · replace hf := xi_pos hf qc3
      refine XS.go (s_aloadn rfl rfl rfl) ?_
      replace hf := xi_none hf
      obtain ⟨qk4, hf⟩ := hf
      refine XS.go (s_getie rfl xf11_160 qk4.1 qk4.2 (by decide) rfl rfl) ?_
      cases hf
      exact XR.reti rfl rfl (fun hret => ⟨_, hret, ⟨rfl, rfl⟩, L0⟩)
    · replace hf := xi_neg hf qc3
      refine XS.go (s_aloadn rfl rfl rfl) ?_
      replace hf := xi_none hf
      obtain ⟨qk5, hf⟩ := hf
      refine XS.go (s_getie rfl xf11_149 qk5.1 qk5.2 (by decide) rfl rfl) ?_
      refine XS.go (s_goto (tgt := 23) rfl rfl) ?_
      cases hf
      exact XR.reti rfl rfl (fun hret => ⟨_, hret, ⟨rfl, rfl⟩, L0⟩)
def b_t_size_113 (x1 : Int32) (x2 : Int32) (h : XH) : Option (Int32 × XH) := (Option.bind (hr h 0 4) fun b1 => (if b1 < hz h ∧ hk h b1 = 9 then (Option.bind (hr h b1 1) fun b4 => (if b4 < hz h ∧ hk h b4 = 4 then (Option.bind (f_g_at b4 x2 h) fun r7 => (Option.bind (f_t_tableSize r7.1 x1 r7.2) fun r10 => (some (r10.1, r10.2)))) else none)) else none))
set_option maxRecDepth 20000 in
theorem kb_t_size_113 {l : Launch} {G : XG} {d : Nat} {x1 : Int32} {x2 : Int32} {h : XH} {r : Int32 × XH} (L0 : LY h) (hf : b_t_size_113 x1 x2 h = some r) : XR l G xEX11_size (d + 1) (113, [some (.ref 0), some (.int x1), some (.int x2)], [], h) (fun C => ∃ v, xRet xEX11_size C v ∧ (C.2.2.2 = r.2 ∧ v = some (.int r.1)) ∧ LY r.2) := by
  unfold b_t_size_113 at hf
  refine XS.go (s_aloadn rfl rfl rfl) ?_
  replace hf := xb_some hf
  obtain ⟨b1, qr2, hf⟩ := hf
  refine XS.go (s_getr rfl xf11_36 (LY.lt L0 (by decide)) (LY.k0 L0) (by decide) rfl qr2) ?_
  replace hf := xi_none hf
  obtain ⟨qk3, hf⟩ := hf
  replace hf := xb_some hf
  obtain ⟨b4, qr5, hf⟩ := hf
  refine XS.go (s_getr rfl xf11_116 qk3.1 qk3.2 (by decide) rfl qr5) ?_
  refine XS.go (s_iloadn rfl rfl rfl) ?_
  replace hf := xi_none hf
  obtain ⟨qk6, hf⟩ := hf
  replace hf := xb_some hf
  obtain ⟨r7, e8, hf⟩ := hf
  refine r_callv rfl xvX4_at xm11_134 (kf_g_at (d := d) L0 e8) qk6.1 qk6.2 (by decide) rfl rfl (dl0 (by decide)) (by decide) (Nat.le_of_ble_eq_true rfl) ?_
  rintro _ _ ⟨⟨rfl, rfl⟩, L9⟩
  refine XS.go (s_iloadn rfl rfl rfl) ?_
  replace hf := xb_some hf
  obtain ⟨r10, e11, hf⟩ := hf
  refine r_calls rfl xsX11_tableSize xm11_142 (kf_t_tableSize (d := d) L9 e11) rfl rfl (dl0 (by decide)) (by decide) (Nat.le_of_ble_eq_true rfl) ?_
  rintro _ _ ⟨⟨rfl, rfl⟩, L12⟩
  cases hf
  exact XR.reti rfl rfl (fun hret => ⟨_, hret, ⟨rfl, rfl⟩, L12⟩)
def b_t_size_97 (x1 : Int32) (x2 : Int32) (h : XH) : Option (Int32 × XH) := (Option.bind (hr h 0 4) fun b13 => (if b13 < hz h ∧ hk h b13 = 9 then (Option.bind (hr h b13 0) fun b16 => (if b16 < hz h ∧ hk h b16 = 4 then (Option.bind (f_g_at b16 x2 h) fun r19 => (Option.bind (f_t_structSize r19.1 x1 r19.2) fun r22 => (some (r22.1, r22.2)))) else none)) else none))
set_option maxRecDepth 20000 in
theorem kb_t_size_97 {l : Launch} {G : XG} {d : Nat} {x1 : Int32} {x2 : Int32} {h : XH} {r : Int32 × XH} (L0 : LY h) (hf : b_t_size_97 x1 x2 h = some r) : XR l G xEX11_size (d + 1) (97, [some (.ref 0), some (.int x1), some (.int x2)], [], h) (fun C => ∃ v, xRet xEX11_size C v ∧ (C.2.2.2 = r.2 ∧ v = some (.int r.1)) ∧ LY r.2) := by
  unfold b_t_size_97 at hf
  refine XS.go (s_aloadn rfl rfl rfl) ?_
  replace hf := xb_some hf
  obtain ⟨b13, qr14, hf⟩ := hf
  refine XS.go (s_getr rfl xf11_36 (LY.lt L0 (by decide)) (LY.k0 L0) (by decide) rfl qr14) ?_
  replace hf := xi_none hf
  obtain ⟨qk15, hf⟩ := hf
  replace hf := xb_some hf
  obtain ⟨b16, qr17, hf⟩ := hf
  refine XS.go (s_getr rfl xf11_125 qk15.1 qk15.2 (by decide) rfl qr17) ?_
  refine XS.go (s_iloadn rfl rfl rfl) ?_
  replace hf := xi_none hf
  obtain ⟨qk18, hf⟩ := hf
  replace hf := xb_some hf
  obtain ⟨r19, e20, hf⟩ := hf
  refine r_callv rfl xvX4_at xm11_134 (kf_g_at (d := d) L0 e20) qk18.1 qk18.2 (by decide) rfl rfl (dl0 (by decide)) (by decide) (Nat.le_of_ble_eq_true rfl) ?_
  rintro _ _ ⟨⟨rfl, rfl⟩, L21⟩
  refine XS.go (s_iloadn rfl rfl rfl) ?_
  replace hf := xb_some hf
  obtain ⟨r22, e23, hf⟩ := hf
  refine r_calls rfl xsX11_structSize xm11_138 (kf_t_structSize (d := d) L21 e23) rfl rfl (dl0 (by decide)) (by decide) (Nat.le_of_ble_eq_true rfl) ?_
  rintro _ _ ⟨⟨rfl, rfl⟩, L24⟩
  cases hf
  exact XR.reti rfl rfl (fun hret => ⟨_, hret, ⟨rfl, rfl⟩, L24⟩)
def f_t_size (a0 : Int32) (a1 : Int32) (h : XH) : Option (Int32 × XH) := (if a0 = 0 then (Option.bind (hr h 0 4) fun b26 => (if b26 < hz h ∧ hk h b26 = 9 then (Option.bind (hr h b26 0) fun b29 => (if b29 < hz h ∧ hk h b29 = 4 then (some ((hi h b29 1), h)) else none)) else none)) else (if a0 = 1 then (Option.bind (hr h 0 4) fun b32 => (if b32 < hz h ∧ hk h b32 = 9 then (Option.bind (hr h b32 1) fun b35 => (if b35 < hz h ∧ hk h b35 = 4 then (some ((hi h b35 1), h)) else none)) else none)) else (if a0 = 2 then (Option.bind (hr h 0 4) fun b38 => (if b38 < hz h ∧ hk h b38 = 9 then (Option.bind (hr h b38 2) fun b41 => (if b41 < hz h ∧ hk h b41 = 4 then (some ((hi h b41 1), h)) else none)) else none)) else (if a0 = 3 then (Option.bind (hr h 0 4) fun b44 => (if b44 < hz h ∧ hk h b44 = 9 then (some ((hi h b44 5), h)) else none)) else (if a0 = 4 then (b_t_size_97 a0 a1 h) else (if a0 = 5 then (b_t_size_97 a0 a1 h) else (if a0 = 6 then (b_t_size_97 a0 a1 h) else (if a0 = 7 then (b_t_size_113 a0 a1 h) else (if a0 = 8 then (b_t_size_113 a0 a1 h) else (if a0 = 9 then (Option.bind (hr h 0 4) fun b47 => (if b47 < hz h ∧ hk h b47 = 9 then (Option.bind (hr h b47 2) fun b50 => (if b50 < hz h ∧ hk h b50 = 4 then (Option.bind (f_g_at b50 a1 h) fun r53 => (Option.bind (f_t_memberCount r53.1 r53.2) fun r56 => (some (r56.1, r56.2)))) else none)) else none)) else (some ((-1), h))))))))))))
set_option maxRecDepth 20000 in
theorem kf_t_size {l : Launch} {G : XG} {d : Nat} {a0 : Int32} {a1 : Int32} {h : XH} {r : Int32 × XH} (L0 : LY h) (hf : f_t_size a0 a1 h = some r) : XC l G xEX11_size (d + 1) [.ref 0, .int a0, .int a1] h (fun v h2 => (h2 = r.2 ∧ v = some (.int r.1)) ∧ LY r.2) := by
  refine XC.virt xvX11_size (Nat.le_of_ble_eq_true rfl) ?_
  unfold f_t_size at hf
  refine XR.norm (L3 := [some (.ref 0), some (.int a0), some (.int a1)]) rfl ?_
  refine XS.go (s_iloadn rfl rfl rfl) ?_
  by_cases qs25_0 : a0 = 0
  · replace hf := xi_pos hf qs25_0
    refine XS.go (s_tswI (tgt := 56) rfl (by rw [qs25_0]; decide) (by rw [qs25_0]; decide) (by rw [qs25_0]; rfl) rfl) ?_
    refine XS.go (s_aloadn rfl rfl rfl) ?_
    replace hf := xb_some hf
    obtain ⟨b26, qr27, hf⟩ := hf
    refine XS.go (s_getr rfl xf11_36 (LY.lt L0 (by decide)) (LY.k0 L0) (by decide) rfl qr27) ?_
    replace hf := xi_none hf
    obtain ⟨qk28, hf⟩ := hf
    replace hf := xb_some hf
    obtain ⟨b29, qr30, hf⟩ := hf
    refine XS.go (s_getr rfl xf11_125 qk28.1 qk28.2 (by decide) rfl qr30) ?_
    replace hf := xi_none hf
    obtain ⟨qk31, hf⟩ := hf
    refine XS.go (s_getie rfl xf11_120 qk31.1 qk31.2 (by decide) rfl rfl) ?_
    cases hf
    exact XR.reti rfl rfl (fun hret => ⟨_, hret, ⟨rfl, rfl⟩, L0⟩)
  replace hf := xi_neg hf qs25_0
  by_cases qs25_1 : a0 = 1
  · replace hf := xi_pos hf qs25_1
    refine XS.go (s_tswI (tgt := 67) rfl (by rw [qs25_1]; decide) (by rw [qs25_1]; decide) (by rw [qs25_1]; rfl) rfl) ?_
    refine XS.go (s_aloadn rfl rfl rfl) ?_
    replace hf := xb_some hf
    obtain ⟨b32, qr33, hf⟩ := hf
    refine XS.go (s_getr rfl xf11_36 (LY.lt L0 (by decide)) (LY.k0 L0) (by decide) rfl qr33) ?_
    replace hf := xi_none hf
    obtain ⟨qk34, hf⟩ := hf
    replace hf := xb_some hf
    obtain ⟨b35, qr36, hf⟩ := hf
    refine XS.go (s_getr rfl xf11_116 qk34.1 qk34.2 (by decide) rfl qr36) ?_
    replace hf := xi_none hf
    obtain ⟨qk37, hf⟩ := hf
    refine XS.go (s_getie rfl xf11_120 qk37.1 qk37.2 (by decide) rfl rfl) ?_
    cases hf
    exact XR.reti rfl rfl (fun hret => ⟨_, hret, ⟨rfl, rfl⟩, L0⟩)
  replace hf := xi_neg hf qs25_1
  by_cases qs25_2 : a0 = 2
  · replace hf := xi_pos hf qs25_2
    refine XS.go (s_tswI (tgt := 78) rfl (by rw [qs25_2]; decide) (by rw [qs25_2]; decide) (by rw [qs25_2]; rfl) rfl) ?_
    refine XS.go (s_aloadn rfl rfl rfl) ?_
    replace hf := xb_some hf
    obtain ⟨b38, qr39, hf⟩ := hf
    refine XS.go (s_getr rfl xf11_36 (LY.lt L0 (by decide)) (LY.k0 L0) (by decide) rfl qr39) ?_
    replace hf := xi_none hf
    obtain ⟨qk40, hf⟩ := hf
    replace hf := xb_some hf
    obtain ⟨b41, qr42, hf⟩ := hf
    refine XS.go (s_getr rfl xf11_128 qk40.1 qk40.2 (by decide) rfl qr42) ?_
    replace hf := xi_none hf
    obtain ⟨qk43, hf⟩ := hf
    refine XS.go (s_getie rfl xf11_120 qk43.1 qk43.2 (by decide) rfl rfl) ?_
    cases hf
    exact XR.reti rfl rfl (fun hret => ⟨_, hret, ⟨rfl, rfl⟩, L0⟩)
  replace hf := xi_neg hf qs25_2
  by_cases qs25_3 : a0 = 3
  · replace hf := xi_pos hf qs25_3
    refine XS.go (s_tswI (tgt := 89) rfl (by rw [qs25_3]; decide) (by rw [qs25_3]; decide) (by rw [qs25_3]; rfl) rfl) ?_
    refine XS.go (s_aloadn rfl rfl rfl) ?_
    replace hf := xb_some hf
    obtain ⟨b44, qr45, hf⟩ := hf
    refine XS.go (s_getr rfl xf11_36 (LY.lt L0 (by decide)) (LY.k0 L0) (by decide) rfl qr45) ?_
    replace hf := xi_none hf
    obtain ⟨qk46, hf⟩ := hf
    refine XS.go (s_getie rfl xf11_131 qk46.1 qk46.2 (by decide) rfl rfl) ?_
    cases hf
    exact XR.reti rfl rfl (fun hret => ⟨_, hret, ⟨rfl, rfl⟩, L0⟩)
  replace hf := xi_neg hf qs25_3
  by_cases qs25_4 : a0 = 4
  · replace hf := xi_pos hf qs25_4
    refine XS.go (s_tswI (tgt := 97) rfl (by rw [qs25_4]; decide) (by rw [qs25_4]; decide) (by rw [qs25_4]; rfl) rfl) ?_
    exact XR.forget (L2 := [some (.ref 0), some (.int a0), some (.int a1)]) ⟨rfl, ⟨rfl, ⟨rfl, trivial⟩⟩⟩ (kb_t_size_97 L0 hf)
  replace hf := xi_neg hf qs25_4
  by_cases qs25_5 : a0 = 5
  · replace hf := xi_pos hf qs25_5
    refine XS.go (s_tswI (tgt := 97) rfl (by rw [qs25_5]; decide) (by rw [qs25_5]; decide) (by rw [qs25_5]; rfl) rfl) ?_
    exact XR.forget (L2 := [some (.ref 0), some (.int a0), some (.int a1)]) ⟨rfl, ⟨rfl, ⟨rfl, trivial⟩⟩⟩ (kb_t_size_97 L0 hf)
  replace hf := xi_neg hf qs25_5
  by_cases qs25_6 : a0 = 6
  · replace hf := xi_pos hf qs25_6
    refine XS.go (s_tswI (tgt := 97) rfl (by rw [qs25_6]; decide) (by rw [qs25_6]; decide) (by rw [qs25_6]; rfl) rfl) ?_
    exact XR.forget (L2 := [some (.ref 0), some (.int a0), some (.int a1)]) ⟨rfl, ⟨rfl, ⟨rfl, trivial⟩⟩⟩ (kb_t_size_97 L0 hf)
  replace hf := xi_neg hf qs25_6
  by_cases qs25_7 : a0 = 7
  · replace hf := xi_pos hf qs25_7
    refine XS.go (s_tswI (tgt := 113) rfl (by rw [qs25_7]; decide) (by rw [qs25_7]; decide) (by rw [qs25_7]; rfl) rfl) ?_
    exact XR.forget (L2 := [some (.ref 0), some (.int a0), some (.int a1)]) ⟨rfl, ⟨rfl, ⟨rfl, trivial⟩⟩⟩ (kb_t_size_113 L0 hf)
  replace hf := xi_neg hf qs25_7
  by_cases qs25_8 : a0 = 8
  · replace hf := xi_pos hf qs25_8
    refine XS.go (s_tswI (tgt := 113) rfl (by rw [qs25_8]; decide) (by rw [qs25_8]; decide) (by rw [qs25_8]; rfl) rfl) ?_
    exact XR.forget (L2 := [some (.ref 0), some (.int a0), some (.int a1)]) ⟨rfl, ⟨rfl, ⟨rfl, trivial⟩⟩⟩ (kb_t_size_113 L0 hf)
  replace hf := xi_neg hf qs25_8
  by_cases qs25_9 : a0 = 9
  · replace hf := xi_pos hf qs25_9
    refine XS.go (s_tswI (tgt := 129) rfl (by rw [qs25_9]; decide) (by rw [qs25_9]; decide) (by rw [qs25_9]; rfl) rfl) ?_
    refine XS.go (s_aloadn rfl rfl rfl) ?_
    replace hf := xb_some hf
    obtain ⟨b47, qr48, hf⟩ := hf
    refine XS.go (s_getr rfl xf11_36 (LY.lt L0 (by decide)) (LY.k0 L0) (by decide) rfl qr48) ?_
    replace hf := xi_none hf
    obtain ⟨qk49, hf⟩ := hf
    replace hf := xb_some hf
    obtain ⟨b50, qr51, hf⟩ := hf
    refine XS.go (s_getr rfl xf11_128 qk49.1 qk49.2 (by decide) rfl qr51) ?_
    refine XS.go (s_iloadn rfl rfl rfl) ?_
    replace hf := xi_none hf
    obtain ⟨qk52, hf⟩ := hf
    replace hf := xb_some hf
    obtain ⟨r53, e54, hf⟩ := hf
    refine r_callv rfl xvX4_at xm11_134 (kf_g_at (d := d) L0 e54) qk52.1 qk52.2 (by decide) rfl rfl (dl0 (by decide)) (by decide) (Nat.le_of_ble_eq_true rfl) ?_
    rintro _ _ ⟨⟨rfl, rfl⟩, L55⟩
    replace hf := xb_some hf
    obtain ⟨r56, e57, hf⟩ := hf
    refine r_calls rfl xsX11_memberCount xm11_145 (kf_t_memberCount (d := d) L55 e57) rfl rfl (dl0 (by decide)) (by decide) (Nat.le_of_ble_eq_true rfl) ?_
    rintro _ _ ⟨⟨rfl, rfl⟩, L58⟩
    cases hf
    exact XR.reti rfl rfl (fun hret => ⟨_, hret, ⟨rfl, rfl⟩, L58⟩)
  replace hf := xi_neg hf qs25_9
  have qs25_o : (a0).toInt < 0 ∨ 9 < (a0).toInt := by
    refine tsw_out 0 9 (by decide) ?_
    intro k h1 h2
    have z : k = 0 ∨ k = 1 ∨ k = 2 ∨ k = 3 ∨ k = 4 ∨ k = 5 ∨ k = 6 ∨ k = 7 ∨ k = 8 ∨ k = 9 := by omega
    rcases z with rfl | rfl | rfl | rfl | rfl | rfl | rfl | rfl | rfl | rfl
    · exact qs25_0
    · exact qs25_1
    · exact qs25_2
    · exact qs25_3
    · exact qs25_4
    · exact qs25_5
    · exact qs25_6
    · exact qs25_7
    · exact qs25_8
    · exact qs25_9
  refine XS.go (s_tswO (tgt := 144) rfl qs25_o rfl) ?_
  refine XS.go (s_iconst (v := (-1)) rfl rfl) ?_
  cases hf
  exact XR.reti rfl rfl (fun hret => ⟨_, hret, ⟨rfl, rfl⟩, L0⟩)
def b_t_structOrTable_29 (y0 : Option Nat) (h : XH) : Option (Option Nat × XH) := (some (y0, h))
set_option maxRecDepth 20000 in
theorem kb_t_structOrTable_29 {l : Launch} {G : XG} {d : Nat} {y0 : Option Nat} {h : XH} {r : Option Nat × XH} (L0 : LY h) (hf : b_t_structOrTable_29 y0 h = some r) : XR l G xEX11_structOrTable (d + 1) (29, [none, none, none], [(va_rf y0)], h) (fun C => ∃ v, xRet xEX11_structOrTable C v ∧ (C.2.2.2 = r.2 ∧ v = some (va_rf r.1)) ∧ LY r.2) := by
  unfold b_t_structOrTable_29 at hf
  cases hf
  exact XR.reta (o := y0) rfl rfl (fun hret => ⟨_, hret, ⟨rfl, rfl⟩, L0⟩)
def f_t_structOrTable (a0 : Int32) (a1 : Int32) (h : XH) : Option (Option Nat × XH) := (if a0 = 0 then (Option.bind (hr h 0 4) fun b2 => (if b2 < hz h ∧ hk h b2 = 9 then (Option.bind (hr h b2 1) fun b5 => (if b5 < hz h ∧ hk h b5 = 4 then (Option.bind (f_g_at b5 a1 h) fun r8 => (b_t_structOrTable_29 r8.1 r8.2)) else none)) else none)) else (Option.bind (hr h 0 4) fun b11 => (if b11 < hz h ∧ hk h b11 = 9 then (Option.bind (hr h b11 0) fun b14 => (if b14 < hz h ∧ hk h b14 = 4 then (Option.bind (f_g_at b14 a1 h) fun r17 => (b_t_structOrTable_29 r17.1 r17.2)) else none)) else none)))
set_option maxRecDepth 20000 in
theorem kf_t_structOrTable {l : Launch} {G : XG} {d : Nat} {a0 : Int32} {a1 : Int32} {h : XH} {r : Option Nat × XH} (L0 : LY h) (hf : f_t_structOrTable a0 a1 h = some r) : XC l G xEX11_structOrTable (d + 1) [.ref 0, .int a0, .int a1] h (fun v h2 => (h2 = r.2 ∧ v = some (va_rf r.1)) ∧ LY r.2) := by
  refine XC.virt xvX11_structOrTable (Nat.le_of_ble_eq_true rfl) ?_
  unfold f_t_structOrTable at hf
  refine XR.norm (L3 := [some (.ref 0), some (.int a0), some (.int a1)]) rfl ?_
  refine XS.go (s_iloadn rfl rfl rfl) ?_
  refine r_if_eq (tgt := 18) rfl rfl (fun qc1 => ?_) (fun qc1 => ?_)
  · replace hf := xi_pos hf qc1
    refine XS.go (s_aloadn rfl rfl rfl) ?_
    replace hf := xb_some hf
    obtain ⟨b2, qr3, hf⟩ := hf
    refine XS.go (s_getr rfl xf11_36 (LY.lt L0 (by decide)) (LY.k0 L0) (by decide) rfl qr3) ?_
    replace hf := xi_none hf
    obtain ⟨qk4, hf⟩ := hf
    replace hf := xb_some hf
    obtain ⟨b5, qr6, hf⟩ := hf
    refine XS.go (s_getr rfl xf11_116 qk4.1 qk4.2 (by decide) rfl qr6) ?_
    refine XS.go (s_iloadn rfl rfl rfl) ?_
    replace hf := xi_none hf
    obtain ⟨qk7, hf⟩ := hf
    replace hf := xb_some hf
    obtain ⟨r8, e9, hf⟩ := hf
    refine r_callv rfl xvX4_at xm11_134 (kf_g_at (d := d) L0 e9) qk7.1 qk7.2 (by decide) rfl rfl (dl0 (by decide)) (by decide) (Nat.le_of_ble_eq_true rfl) ?_
    rintro _ _ ⟨⟨rfl, rfl⟩, L10⟩
    exact XR.forget (L2 := [none, none, none]) trivial (kb_t_structOrTable_29 L10 hf)
  · replace hf := xi_neg hf qc1
    refine XS.go (s_aloadn rfl rfl rfl) ?_
    replace hf := xb_some hf
    obtain ⟨b11, qr12, hf⟩ := hf
    refine XS.go (s_getr rfl xf11_36 (LY.lt L0 (by decide)) (LY.k0 L0) (by decide) rfl qr12) ?_
    replace hf := xi_none hf
    obtain ⟨qk13, hf⟩ := hf
    replace hf := xb_some hf
    obtain ⟨b14, qr15, hf⟩ := hf
    refine XS.go (s_getr rfl xf11_125 qk13.1 qk13.2 (by decide) rfl qr15) ?_
    refine XS.go (s_iloadn rfl rfl rfl) ?_
    replace hf := xi_none hf
    obtain ⟨qk16, hf⟩ := hf
    replace hf := xb_some hf
    obtain ⟨r17, e18, hf⟩ := hf
    refine r_callv rfl xvX4_at xm11_134 (kf_g_at (d := d) L0 e18) qk16.1 qk16.2 (by decide) rfl rfl (dl0 (by decide)) (by decide) (Nat.le_of_ble_eq_true rfl) ?_
    rintro _ _ ⟨⟨rfl, rfl⟩, L19⟩
    refine XS.go (s_goto (tgt := 29) rfl rfl) ?_
    exact XR.forget (L2 := [none, none, none]) trivial (kb_t_structOrTable_29 L19 hf)
def f_t_field (a0 : Int32) (a1 : Int32) (a2 : Int32) (a3 : Int32) (h : XH) : Option (Int32 × XH) := (Option.bind (f_t_structOrTable a0 a1 h) fun r1 => (Option.bind (f_t_fieldOf r1.1 a2 r1.2) fun r4 => (Option.elim (r4.1) (some ((-1), r4.2)) fun b8 => (if a3 = 0 then (if b8 < hz r4.2 ∧ hk r4.2 b8 = 3 then (some ((hi r4.2 b8 3), r4.2)) else none) else (if a3 = 1 then (if b8 < hz r4.2 ∧ hk r4.2 b8 = 3 then (some ((hi r4.2 b8 4), r4.2)) else none) else (if a3 = 2 then (if b8 < hz r4.2 ∧ hk r4.2 b8 = 3 then (some ((hi r4.2 b8 5), r4.2)) else none) else (if a3 = 3 then (if b8 < hz r4.2 ∧ hk r4.2 b8 = 3 then (some ((hi r4.2 b8 6), r4.2)) else none) else (if a3 = 4 then (if b8 < hz r4.2 ∧ hk r4.2 b8 = 3 then (if (hi r4.2 b8 7) = 0 then (some (0, r4.2)) else (some (1, r4.2))) else none) else (some ((-1), r4.2))))))))))
set_option maxRecDepth 20000 in
theorem kf_t_field {l : Launch} {G : XG} {d : Nat} {a0 : Int32} {a1 : Int32} {a2 : Int32} {a3 : Int32} {h : XH} {r : Int32 × XH} (L0 : LY h) (hf : f_t_field a0 a1 a2 a3 h = some r) : XC l G xEX11_field (d + 2) [.ref 0, .int a0, .int a1, .int a2, .int a3] h (fun v h2 => (h2 = r.2 ∧ v = some (.int r.1)) ∧ LY r.2) := by
  refine XC.virt xvX11_field (Nat.le_of_ble_eq_true rfl) ?_
  unfold f_t_field at hf
  refine XR.norm (L3 := [some (.ref 0), some (.int a0), some (.int a1), some (.int a2), some (.int a3), none]) rfl ?_
  refine XS.go (s_aloadn rfl rfl rfl) ?_
  refine XS.go (s_iloadn rfl rfl rfl) ?_
  refine XS.go (s_iloadn rfl rfl rfl) ?_
  replace hf := xb_some hf
  obtain ⟨r1, e2, hf⟩ := hf
  refine r_callv rfl xvX11_structOrTable xm11_163 (kf_t_structOrTable (d := d) L0 e2) (LY.lt L0 (by decide)) (LY.k0 L0) (by decide) rfl rfl (dl (by decide)) (by decide) (Nat.le_of_ble_eq_true rfl) ?_
  rintro _ _ ⟨⟨rfl, rfl⟩, L3⟩
  refine XS.go (s_iloadn rfl rfl rfl) ?_
  replace hf := xb_some hf
  obtain ⟨r4, e5, hf⟩ := hf
  refine r_calls rfl xsX11_fieldOf xm11_167 (kf_t_fieldOf (d := d) L3 e5) rfl rfl (dl (by decide)) (by decide) (Nat.le_of_ble_eq_true rfl) ?_
  rintro _ _ ⟨⟨rfl, rfl⟩, L6⟩
  refine XS.go (XS.lcl (L3 := [some (.ref 0), some (.int a0), some (.int a1), some (.int a2), some (.int a3), some (va_rf r4.1)]) (s_astoreO rfl (Nat.le_of_ble_eq_true rfl)) rfl) ?_
  refine XS.go (s_aloadO rfl rfl) ?_
  refine r_ifnonnull (tgt := 19) rfl rfl (fun qn7 => ?_) (fun b8 qn7 => ?_)
  · replace hf := xo_none hf qn7
    try rw [qn7]
    refine XS.go (s_iconst (v := (-1)) rfl rfl) ?_
    cases hf
    exact XR.reti rfl rfl (fun hret => ⟨_, hret, ⟨rfl, rfl⟩, L6⟩)
  · replace hf := xo_some hf qn7
    try rw [qn7]
    refine XS.go (s_iload rfl rfl) ?_
    by_cases qs9_0 : a3 = 0
    · replace hf := xi_pos hf qs9_0
      refine XS.go (s_tswI (tgt := 56) rfl (by rw [qs9_0]; decide) (by rw [qs9_0]; decide) (by rw [qs9_0]; rfl) rfl) ?_
      refine XS.go (s_aload rfl rfl) ?_
      replace hf := xi_none hf
      obtain ⟨qk10, hf⟩ := hf
      refine XS.go (s_getie rfl xf11_171 qk10.1 qk10.2 (by decide) rfl rfl) ?_
      cases hf
      exact XR.reti rfl rfl (fun hret => ⟨_, hret, ⟨rfl, rfl⟩, L6⟩)
    replace hf := xi_neg hf qs9_0
    by_cases qs9_1 : a3 = 1
    · replace hf := xi_pos hf qs9_1
      refine XS.go (s_tswI (tgt := 62) rfl (by rw [qs9_1]; decide) (by rw [qs9_1]; decide) (by rw [qs9_1]; rfl) rfl) ?_
      refine XS.go (s_aload rfl rfl) ?_
      replace hf := xi_none hf
      obtain ⟨qk11, hf⟩ := hf
      refine XS.go (s_getie rfl xf11_176 qk11.1 qk11.2 (by decide) rfl rfl) ?_
      cases hf
      exact XR.reti rfl rfl (fun hret => ⟨_, hret, ⟨rfl, rfl⟩, L6⟩)
    replace hf := xi_neg hf qs9_1
    by_cases qs9_2 : a3 = 2
    · replace hf := xi_pos hf qs9_2
      refine XS.go (s_tswI (tgt := 68) rfl (by rw [qs9_2]; decide) (by rw [qs9_2]; decide) (by rw [qs9_2]; rfl) rfl) ?_
      refine XS.go (s_aload rfl rfl) ?_
      replace hf := xi_none hf
      obtain ⟨qk12, hf⟩ := hf
      refine XS.go (s_getie rfl xf11_179 qk12.1 qk12.2 (by decide) rfl rfl) ?_
      cases hf
      exact XR.reti rfl rfl (fun hret => ⟨_, hret, ⟨rfl, rfl⟩, L6⟩)
    replace hf := xi_neg hf qs9_2
    by_cases qs9_3 : a3 = 3
    · replace hf := xi_pos hf qs9_3
      refine XS.go (s_tswI (tgt := 74) rfl (by rw [qs9_3]; decide) (by rw [qs9_3]; decide) (by rw [qs9_3]; rfl) rfl) ?_
      refine XS.go (s_aload rfl rfl) ?_
      replace hf := xi_none hf
      obtain ⟨qk13, hf⟩ := hf
      refine XS.go (s_getie rfl xf11_182 qk13.1 qk13.2 (by decide) rfl rfl) ?_
      cases hf
      exact XR.reti rfl rfl (fun hret => ⟨_, hret, ⟨rfl, rfl⟩, L6⟩)
    replace hf := xi_neg hf qs9_3
    by_cases qs9_4 : a3 = 4
    · replace hf := xi_pos hf qs9_4
      refine XS.go (s_tswI (tgt := 80) rfl (by rw [qs9_4]; decide) (by rw [qs9_4]; decide) (by rw [qs9_4]; rfl) rfl) ?_
      refine XS.go (s_aload rfl rfl) ?_
      replace hf := xi_none hf
      obtain ⟨qk14, hf⟩ := hf
      refine XS.go (s_getze rfl xf11_185 qk14.1 qk14.2 (by decide) rfl rfl) ?_
      refine r_if_eq (tgt := 92) rfl rfl (fun qc15 => ?_) (fun qc15 => ?_)
      · replace hf := xi_pos hf qc15
        refine XS.go (s_iconst (v := 0) rfl rfl) ?_
        cases hf
        exact XR.reti rfl rfl (fun hret => ⟨_, hret, ⟨rfl, rfl⟩, L6⟩)
      · replace hf := xi_neg hf qc15
        refine XS.go (s_iconst (v := 1) rfl rfl) ?_
        refine XS.go (s_goto (tgt := 93) rfl rfl) ?_
        cases hf
        exact XR.reti rfl rfl (fun hret => ⟨_, hret, ⟨rfl, rfl⟩, L6⟩)
    replace hf := xi_neg hf qs9_4
    have qs9_o : (a3).toInt < 0 ∨ 4 < (a3).toInt := by
      refine tsw_out 0 4 (by decide) ?_
      intro k h1 h2
      have z : k = 0 ∨ k = 1 ∨ k = 2 ∨ k = 3 ∨ k = 4 := by omega
      rcases z with rfl | rfl | rfl | rfl | rfl
      · exact qs9_0
      · exact qs9_1
      · exact qs9_2
      · exact qs9_3
      · exact qs9_4
    refine XS.go (s_tswO (tgt := 94) rfl qs9_o rfl) ?_
    refine XS.go (s_iconst (v := (-1)) rfl rfl) ?_
    cases hf
    exact XR.reti rfl rfl (fun hret => ⟨_, hret, ⟨rfl, rfl⟩, L6⟩)
def f_t_standard (a0 : Int32) (a1 : Int32) (h : XH) : Option (Int64 × XH) := (Option.bind (hr h 0 4) fun b1 => (if b1 < hz h ∧ hk h b1 = 9 then (Option.bind (hr h b1 1) fun b4 => (if b4 < hz h ∧ hk h b4 = 4 then (Option.bind (f_g_at b4 a0 h) fun r7 => (Option.bind (f_t_fieldOf r7.1 a1 r7.2) fun r10 => (Option.elim (r10.1) (some ((0 : Int64), r10.2)) fun b14 => (if b14 < hz r10.2 ∧ hk r10.2 b14 = 3 then (some ((hj r10.2 b14 8), r10.2)) else none)))) else none)) else none))
set_option maxRecDepth 20000 in
theorem kf_t_standard {l : Launch} {G : XG} {d : Nat} {a0 : Int32} {a1 : Int32} {h : XH} {r : Int64 × XH} (L0 : LY h) (hf : f_t_standard a0 a1 h = some r) : XC l G xEX11_standard (d + 2) [.ref 0, .int a0, .int a1] h (fun v h2 => (h2 = r.2 ∧ v = some (.long r.1)) ∧ LY r.2) := by
  refine XC.virt xvX11_standard (Nat.le_of_ble_eq_true rfl) ?_
  unfold f_t_standard at hf
  refine XR.norm (L3 := [some (.ref 0), some (.int a0), some (.int a1), none]) rfl ?_
  refine XS.go (s_aloadn rfl rfl rfl) ?_
  replace hf := xb_some hf
  obtain ⟨b1, qr2, hf⟩ := hf
  refine XS.go (s_getr rfl xf11_36 (LY.lt L0 (by decide)) (LY.k0 L0) (by decide) rfl qr2) ?_
  replace hf := xi_none hf
  obtain ⟨qk3, hf⟩ := hf
  replace hf := xb_some hf
  obtain ⟨b4, qr5, hf⟩ := hf
  refine XS.go (s_getr rfl xf11_116 qk3.1 qk3.2 (by decide) rfl qr5) ?_
  refine XS.go (s_iloadn rfl rfl rfl) ?_
  replace hf := xi_none hf
  obtain ⟨qk6, hf⟩ := hf
  replace hf := xb_some hf
  obtain ⟨r7, e8, hf⟩ := hf
  refine r_callv rfl xvX4_at xm11_134 (kf_g_at (d := d) L0 e8) qk6.1 qk6.2 (by decide) rfl rfl (dl0 (by decide)) (by decide) (Nat.le_of_ble_eq_true rfl) ?_
  rintro _ _ ⟨⟨rfl, rfl⟩, L9⟩
  refine XS.go (s_iloadn rfl rfl rfl) ?_
  replace hf := xb_some hf
  obtain ⟨r10, e11, hf⟩ := hf
  refine r_calls rfl xsX11_fieldOf xm11_167 (kf_t_fieldOf (d := d) L9 e11) rfl rfl (dl (by decide)) (by decide) (Nat.le_of_ble_eq_true rfl) ?_
  rintro _ _ ⟨⟨rfl, rfl⟩, L12⟩
  refine XS.go (XS.lcl (L3 := [some (.ref 0), some (.int a0), some (.int a1), some (va_rf r10.1)]) (s_astorenO rfl rfl (Nat.le_of_ble_eq_true rfl)) rfl) ?_
  refine XS.go (s_aloadnO rfl rfl rfl) ?_
  refine r_ifnonnull (tgt := 24) rfl rfl (fun qn13 => ?_) (fun b14 qn13 => ?_)
  · replace hf := xo_none hf qn13
    try rw [qn13]
    refine XS.go (s_lconst (v := 0) rfl rfl) ?_
    refine XS.go (s_goto (tgt := 28) rfl rfl) ?_
    cases hf
    exact XR.retl rfl rfl (fun hret => ⟨_, hret, ⟨rfl, rfl⟩, L12⟩)
  · replace hf := xo_some hf qn13
    try rw [qn13]
    refine XS.go (s_aloadn rfl rfl rfl) ?_
    replace hf := xi_none hf
    obtain ⟨qk15, hf⟩ := hf
    refine XS.go (s_getje rfl xf11_193 qk15.1 qk15.2 (by decide) rfl rfl) ?_
    cases hf
    exact XR.retl rfl rfl (fun hret => ⟨_, hret, ⟨rfl, rfl⟩, L12⟩)
def f_t_find (a0 : Int32) (a1 : Int32) (h : XH) : Option (Int32 × XH) := (Option.bind (f_t_structOrTable a0 a1 (hsi h 1 1 0)) fun r1 => (Option.elim (r1.1) (some ((-1), r1.2)) fun b5 => (if 16 < (hi h 1 1) then (some ((-1), r1.2)) else (Option.bind (f_b_hasZero 1 (hi h 1 1) r1.2) fun r7 => (if r7.1 = 0 then (Option.bind (f_b_packed 1 0 (hi h 1 1) r7.2) fun r11 => (Option.bind (f_b_packed 1 8 (hi h 1 1) r11.2) fun r14 => (if b5 < hz r14.2 ∧ hk r14.2 b5 = 2 then (Option.bind (f_d_fieldNamed b5 r11.1 r14.1 r14.2) fun r18 => (some (r18.1, r18.2))) else none))) else (some ((-1), r7.2)))))))
set_option maxRecDepth 20000 in
theorem kf_t_find {l : Launch} {G : XG} {d : Nat} {a0 : Int32} {a1 : Int32} {h : XH} {r : Int32 × XH} (L0 : LY h) (hf : f_t_find a0 a1 h = some r) : XC l G xEX11_find (d + 2) [.ref 0, .int a0, .int a1] h (fun v h2 => (h2 = r.2 ∧ v = some (.int r.1)) ∧ LY r.2) := by
  refine XC.virt xvX11_find (Nat.le_of_ble_eq_true rfl) ?_
  unfold f_t_find at hf
  refine XR.norm (L3 := [some (.ref 0), some (.int a0), some (.int a1), none, none]) rfl ?_
  refine XS.go (s_aloadn rfl rfl rfl) ?_
  refine XS.go (s_getr rfl xf11_10 (LY.lt L0 (by decide)) (LY.k0 L0) (by decide) rfl (LY.r0_0 L0)) ?_
  refine XS.go (s_getie rfl xf11_73 (LY.lt L0 (by decide)) (LY.k1 L0) (by decide) rfl rfl) ?_
  refine XS.go (XS.lcl (L3 := [some (.ref 0), some (.int a0), some (.int a1), some (.int (hi h 1 1)), none]) (s_istoren rfl rfl (Nat.le_of_ble_eq_true rfl)) rfl) ?_
  refine XS.go (s_aloadn rfl rfl rfl) ?_
  refine XS.go (s_getr rfl xf11_10 (LY.lt L0 (by decide)) (LY.k0 L0) (by decide) rfl (LY.r0_0 L0)) ?_
  refine XS.go (s_iconst (v := 0) rfl rfl) ?_
  refine XS.go (s_puti rfl xf11_73 (LY.lt L0 (by decide)) (LY.k1 L0) (by decide) rfl (Or.inl rfl)) ?_
  refine XS.go (s_aloadn rfl rfl rfl) ?_
  refine XS.go (s_iloadn rfl rfl rfl) ?_
  refine XS.go (s_iloadn rfl rfl rfl) ?_
  replace hf := xb_some hf
  obtain ⟨r1, e2, hf⟩ := hf
  refine r_callv rfl xvX11_structOrTable xm11_163 (kf_t_structOrTable (d := d) (by simp only [LY_si, LY_sj]; exact L0) e2) (LY.lt (by simp only [LY_si, LY_sj]; exact L0) (by decide)) (LY.k0 (by simp only [LY_si, LY_sj]; exact L0)) (by decide) rfl rfl (dl (by decide)) (by decide) (Nat.le_of_ble_eq_true rfl) ?_
  rintro _ _ ⟨⟨rfl, rfl⟩, L3⟩
  refine XS.go (XS.lcl (L3 := [some (.ref 0), some (.int a0), some (.int a1), some (.int (hi h 1 1)), some (va_rf r1.1)]) (s_astoreO rfl (Nat.le_of_ble_eq_true rfl)) rfl) ?_
  refine XS.go (s_aloadO rfl rfl) ?_
  refine r_ifnull (tgt := 46) rfl rfl (fun qn4 => ?_) (fun b5 qn4 => ?_)
  · replace hf := xo_none hf qn4
    try rw [qn4]
    refine XS.go (s_iconst (v := (-1)) rfl rfl) ?_
    cases hf
    exact XR.reti rfl rfl (fun hret => ⟨_, hret, ⟨rfl, rfl⟩, L3⟩)
  · replace hf := xo_some hf qn4
    try rw [qn4]
    refine XS.go (s_iloadn rfl rfl rfl) ?_
    refine XS.go (s_bipush (v := 16) rfl rfl) ?_
    refine r_icmp_gt (tgt := 46) rfl rfl (fun qc6 => ?_) (fun qc6 => ?_)
    · replace hf := xi_pos hf qc6
      refine XS.go (s_iconst (v := (-1)) rfl rfl) ?_
      cases hf
      exact XR.reti rfl rfl (fun hret => ⟨_, hret, ⟨rfl, rfl⟩, L3⟩)
    · replace hf := xi_neg hf qc6
      refine XS.go (s_aloadn rfl rfl rfl) ?_
      refine XS.go (s_getr rfl xf11_10 (LY.lt L3 (by decide)) (LY.k0 L3) (by decide) rfl (LY.r0_0 L3)) ?_
      refine XS.go (s_iloadn rfl rfl rfl) ?_
      replace hf := xb_some hf
      obtain ⟨r7, e8, hf⟩ := hf
      refine r_callv rfl xvX1_hasZero xm11_197 (kf_b_hasZero (d := d) L3 e8) (LY.lt L3 (by decide)) (LY.k1 L3) (by decide) rfl rfl (dl (by decide)) (by decide) (Nat.le_of_ble_eq_true rfl) ?_
      rintro _ _ ⟨⟨rfl, rfl⟩, L9⟩
      refine r_if_eq (tgt := 48) rfl rfl (fun qc10 => ?_) (fun qc10 => ?_)
      · replace hf := xi_pos hf qc10
        refine XS.go (s_aload rfl rfl) ?_
        refine XS.go (s_aloadn rfl rfl rfl) ?_
        refine XS.go (s_getr rfl xf11_10 (LY.lt L9 (by decide)) (LY.k0 L9) (by decide) rfl (LY.r0_0 L9)) ?_
        refine XS.go (s_iconst (v := 0) rfl rfl) ?_
        refine XS.go (s_iloadn rfl rfl rfl) ?_
        replace hf := xb_some hf
        obtain ⟨r11, e12, hf⟩ := hf
        refine r_callv rfl xvX1_packed xm11_201 (kf_b_packed (d := d) L9 e12) (LY.lt L9 (by decide)) (LY.k1 L9) (by decide) rfl rfl (dl (by decide)) (by decide) (Nat.le_of_ble_eq_true rfl) ?_
        rintro _ _ ⟨⟨rfl, rfl⟩, L13⟩
        refine XS.go (s_aloadn rfl rfl rfl) ?_
        refine XS.go (s_getr rfl xf11_10 (LY.lt L13 (by decide)) (LY.k0 L13) (by decide) rfl (LY.r0_0 L13)) ?_
        refine XS.go (s_bipush (v := 8) rfl rfl) ?_
        refine XS.go (s_iloadn rfl rfl rfl) ?_
        replace hf := xb_some hf
        obtain ⟨r14, e15, hf⟩ := hf
        refine r_callv rfl xvX1_packed xm11_201 (kf_b_packed (d := d) L13 e15) (LY.lt L13 (by decide)) (LY.k1 L13) (by decide) rfl rfl (dl (by decide)) (by decide) (Nat.le_of_ble_eq_true rfl) ?_
        rintro _ _ ⟨⟨rfl, rfl⟩, L16⟩
        replace hf := xi_none hf
        obtain ⟨qk17, hf⟩ := hf
        replace hf := xb_some hf
        obtain ⟨r18, e19, hf⟩ := hf
        refine r_callv rfl xvX2_fieldNamed xm11_205 (kf_d_fieldNamed (d := d) L16 e19) qk17.1 qk17.2 (by decide) rfl rfl (dl0 (by decide)) (by decide) (Nat.le_of_ble_eq_true rfl) ?_
        rintro _ _ ⟨⟨rfl, rfl⟩, L20⟩
        cases hf
        exact XR.reti rfl rfl (fun hret => ⟨_, hret, ⟨rfl, rfl⟩, L20⟩)
      · replace hf := xi_neg hf qc10
        refine XS.go (s_iconst (v := (-1)) rfl rfl) ?_
        cases hf
        exact XR.reti rfl rfl (fun hret => ⟨_, hret, ⟨rfl, rfl⟩, L9⟩)
def f_t_push (a0 : Int64) (h : XH) : Option (Int32 × XH) := (Option.bind (f_w_add 5 a0 h) fun r1 => (some (r1.1, r1.2)))
set_option maxRecDepth 20000 in
theorem kf_t_push {l : Launch} {G : XG} {d : Nat} {a0 : Int64} {h : XH} {r : Int32 × XH} (L0 : LY h) (hf : f_t_push a0 h = some r) : XC l G xEX11_push (d + 1) [.ref 0, .long a0] h (fun v h2 => (h2 = r.2 ∧ v = some (.int r.1)) ∧ LY r.2) := by
  refine XC.virt xvX11_push (Nat.le_of_ble_eq_true rfl) ?_
  unfold f_t_push at hf
  refine XR.norm (L3 := [some (.ref 0), some (.long a0), none]) rfl ?_
  refine XS.go (s_aloadn rfl rfl rfl) ?_
  refine XS.go (s_getr rfl xf11_22 (LY.lt L0 (by decide)) (LY.k0 L0) (by decide) rfl (LY.r0_2 L0)) ?_
  refine XS.go (s_lloadn rfl rfl rfl) ?_
  replace hf := xb_some hf
  obtain ⟨r1, e2, hf⟩ := hf
  refine r_callv rfl xvX10_add xm11_209 (kf_w_add (d := d) L0 e2) (LY.lt L0 (by decide)) (LY.k5 L0) (by decide) rfl rfl (dl0 (by decide)) (by decide) (Nat.le_of_ble_eq_true rfl) ?_
  rintro _ _ ⟨⟨rfl, rfl⟩, L3⟩
  cases hf
  exact XR.reti rfl rfl (fun hret => ⟨_, hret, ⟨rfl, rfl⟩, L3⟩)
def f_t_text (h : XH) : Option (Sum Int32 Nat × XH) := (Option.bind (f_u_isOpen (hsi h 1 1 0)) fun r1 => (if r1.1 = 0 then (Option.bind (f_u_addText 1 (hi h 1 1) r1.2) fun r5 => (if ¬ r5.1 = (-1) then (some (Sum.inl r5.1, r5.2)) else (if hz r5.2 < 1000000 then (some (Sum.inr 2, hthr r5.2)) else none))) else (if hz r1.2 < 1000000 then (some (Sum.inr 1, hthr r1.2)) else none)))
set_option maxRecDepth 20000 in
theorem kf_t_text {l : Launch} {G : XG} {d : Nat} {h : XH} {r : Sum Int32 Nat × XH} (hl : l.stackTraces = false) (L0 : LY h) (hf : f_t_text h = some r) : (∃ x, r.1 = Sum.inl x ∧ XC l G xEX11_text (d + 6) [.ref 0] h (fun v h2 => (h2 = r.2 ∧ v = some (.int x)) ∧ LY r.2)) ∨ ∃ k E, r.1 = Sum.inr k ∧ xXs[k]? = some E ∧ XCx l G xEX11_text (d + 6) [.ref 0] h E (fun h2 => h2 = r.2 ∧ LY r.2) := by
  refine xe_of (R := Int32) (V := fun x => some (.int x)) hl xvX11_text rfl (Nat.le_of_ble_eq_true rfl) (by omega) ?_
  unfold f_t_text at hf
  refine XR.norm (L3 := [some (.ref 0), none, none]) rfl ?_
  refine XS.go (s_aloadn rfl rfl rfl) ?_
  refine XS.go (s_getr rfl xf11_10 (LY.lt L0 (by decide)) (LY.k0 L0) (by decide) rfl (LY.r0_0 L0)) ?_
  refine XS.go (s_getie rfl xf11_73 (LY.lt L0 (by decide)) (LY.k1 L0) (by decide) rfl rfl) ?_
  refine XS.go (XS.lcl (L3 := [some (.ref 0), some (.int (hi h 1 1)), none]) (s_istoren rfl rfl (Nat.le_of_ble_eq_true rfl)) rfl) ?_
  refine XS.go (s_aloadn rfl rfl rfl) ?_
  refine XS.go (s_getr rfl xf11_10 (LY.lt L0 (by decide)) (LY.k0 L0) (by decide) rfl (LY.r0_0 L0)) ?_
  refine XS.go (s_iconst (v := 0) rfl rfl) ?_
  refine XS.go (s_puti rfl xf11_73 (LY.lt L0 (by decide)) (LY.k1 L0) (by decide) rfl (Or.inl rfl)) ?_
  refine XS.go (s_aloadn rfl rfl rfl) ?_
  refine XS.go (s_getr rfl xf11_46 (LY.lt (by simp only [LY_si, LY_sj]; exact L0) (by decide)) (LY.k0 (by simp only [LY_si, LY_sj]; exact L0)) (by decide) rfl (LY.r0_6 (by simp only [LY_si, LY_sj]; exact L0))) ?_
  replace hf := xb_some hf
  obtain ⟨r1, e2, hf⟩ := hf
  refine r_callv rfl xvX0_isOpen xm11_213 (kf_u_isOpen (d := d) (by simp only [LY_si, LY_sj]; exact L0) e2) (LY.lt (by simp only [LY_si, LY_sj]; exact L0) (by decide)) (LY.k1244 (by simp only [LY_si, LY_sj]; exact L0)) (by decide) rfl rfl (dl0 (by decide)) (by decide) (Nat.le_of_ble_eq_true rfl) ?_
  rintro _ _ ⟨⟨rfl, rfl⟩, L3⟩
  refine r_if_eq (tgt := 36) rfl rfl (fun qc4 => ?_) (fun qc4 => ?_)
  · replace hf := xi_pos hf qc4
    refine XS.go (s_aloadn rfl rfl rfl) ?_
    refine XS.go (s_getr rfl xf11_46 (LY.lt L3 (by decide)) (LY.k0 L3) (by decide) rfl (LY.r0_6 L3)) ?_
    refine XS.go (s_aloadn rfl rfl rfl) ?_
    refine XS.go (s_getr rfl xf11_10 (LY.lt L3 (by decide)) (LY.k0 L3) (by decide) rfl (LY.r0_0 L3)) ?_
    refine XS.go (s_iloadn rfl rfl rfl) ?_
    replace hf := xb_some hf
    obtain ⟨r5, e6, hf⟩ := hf
    refine r_callv rfl xvX0_addText xm11_221 (kf_u_addText (d := d) L3 e6) (LY.lt L3 (by decide)) (LY.k1244 L3) (by decide) rfl rfl (dl (by decide)) (by decide) (Nat.le_of_ble_eq_true rfl) ?_
    rintro _ _ ⟨⟨rfl, rfl⟩, L7⟩
    refine XS.go (XS.lcl (L3 := [some (.ref 0), some (.int (hi h 1 1)), some (.int r5.1)]) (s_istoren rfl rfl (Nat.le_of_ble_eq_true rfl)) rfl) ?_
    refine XS.go (s_iloadn rfl rfl rfl) ?_
    refine XS.go (s_iconst (v := (-1)) rfl rfl) ?_
    refine r_icmp_ne (tgt := 64) rfl rfl (fun qc8 => ?_) (fun qc8 => ?_)
    · replace hf := xi_pos hf qc8
      refine XS.go (s_iloadn rfl rfl rfl) ?_
      cases hf
      exact XR.reti rfl rfl (fun hret => Or.inl ⟨_, hret, ⟨rfl, ⟨_, rfl, rfl⟩⟩, L7⟩)
    · replace hf := xi_neg hf qc8
      replace hf := xi_none hf
      obtain ⟨qk9, hf⟩ := hf
      cases hf
      exact XR.here (Or.inr ⟨2, _, rfl, rfl, ⟨225, 227, 229, 20, _, rfl, xthr2, ⟨⟨rfl, rfl, rfl⟩, Or.inl ⟨rfl, rfl, rfl⟩⟩, qk9⟩, rfl, LY.new L7 qk9⟩)
  · replace hf := xi_neg hf qc4
    replace hf := xi_none hf
    obtain ⟨qk10, hf⟩ := hf
    cases hf
    exact XR.here (Or.inr ⟨1, _, rfl, rfl, ⟨216, 218, 220, 19, _, rfl, xthr1, ⟨⟨rfl, rfl, rfl⟩, Or.inl ⟨rfl, rfl, rfl⟩⟩, qk10⟩, rfl, LY.new L3 qk10⟩)
def s_t_areLeaves_16 (K16 : Nat → Int32 → Int32 → XH → Option (Int32 × XH)) (x1 : Nat) (x2 : Int32) (x3 : Int32) (h : XH) : Option (Int32 × XH) := (if x2 ≤ x3 then (some (1, h)) else (if x1 < hz h ∧ hk h x1 = 2 then (if ¬ (hi h x1 11) = 0 then (Option.bind (f_d_leafScalar x1 (x3 - x3 / (hi h x1 11) * (hi h x1 11)) h) fun r4 => (Option.bind (f_w_at 5 x3 r4.2) fun r7 => (Option.bind (f_t_isValue r4.1 r7.1 r7.2) fun r10 => (if ¬ r10.1 = 0 then (K16 x1 x2 (x3 + 1) r10.2) else (some (0, r10.2)))))) else none) else none))
set_option maxRecDepth 20000 in
theorem ks_t_areLeaves_16 {l : Launch} {G : XG} {d : Nat} {K16 : Nat → Int32 → Int32 → XH → Option (Int32 × XH)} {x1 : Nat} {x2 : Int32} {x3 : Int32} {h : XH} {r : Int32 × XH} (hK16 : ∀ (x1 : Nat) (x2 : Int32) (x3 : Int32) (h : XH), LY h → K16 x1 x2 x3 h = some r → XR l G xEX11_areLeaves (d + 2) (16, [some (.ref 0), some (.ref x1), some (.int x2), some (.int x3)], [], h) (fun C => ∃ v, xRet xEX11_areLeaves C v ∧ (C.2.2.2 = r.2 ∧ v = some (.int r.1)) ∧ LY r.2)) (L0 : LY h) (hf : s_t_areLeaves_16 K16 x1 x2 x3 h = some r) : XR l G xEX11_areLeaves (d + 2) (16, [some (.ref 0), some (.ref x1), some (.int x2), some (.int x3)], [], h) (fun C => ∃ v, xRet xEX11_areLeaves C v ∧ (C.2.2.2 = r.2 ∧ v = some (.int r.1)) ∧ LY r.2) := by
  unfold s_t_areLeaves_16 at hf
  refine XS.go (s_iloadn rfl rfl rfl) ?_
  refine XS.go (s_iloadn rfl rfl rfl) ?_
  refine r_icmp_ge (tgt := 53) rfl rfl (fun qc1 => ?_) (fun qc1 => ?_)
  · replace hf := xi_pos hf qc1
    refine XS.go (s_iconst (v := 1) rfl rfl) ?_
    cases hf
    exact XR.retz rfl rfl (by decide) (fun hret => ⟨_, hret, ⟨rfl, rfl⟩, L0⟩)
  · replace hf := xi_neg hf qc1
    refine XS.go (s_aloadn rfl rfl rfl) ?_
    refine XS.go (s_iloadn rfl rfl rfl) ?_
    refine XS.go (s_aloadn rfl rfl rfl) ?_
    replace hf := xi_none hf
    obtain ⟨qk2, hf⟩ := hf
    refine XS.go (s_getie rfl xf11_255 qk2.1 qk2.2 (by decide) rfl rfl) ?_
    replace hf := xi_none hf
    obtain ⟨qk3, hf⟩ := hf
    refine XS.go (s_irem qk3 rfl) ?_
    replace hf := xb_some hf
    obtain ⟨r4, e5, hf⟩ := hf
    refine r_callv rfl xvX2_leafScalar xm11_272 (kf_d_leafScalar (d := d) L0 e5) qk2.1 qk2.2 (by decide) rfl rfl (dl0 (by decide)) (by decide) (Nat.le_of_ble_eq_true rfl) ?_
    rintro _ _ ⟨⟨rfl, rfl⟩, L6⟩
    refine XS.go (s_aloadn rfl rfl rfl) ?_
    refine XS.go (s_getr rfl xf11_22 (LY.lt L6 (by decide)) (LY.k0 L6) (by decide) rfl (LY.r0_2 L6)) ?_
    refine XS.go (s_iloadn rfl rfl rfl) ?_
    replace hf := xb_some hf
    obtain ⟨r7, e8, hf⟩ := hf
    refine r_callv rfl xvX10_at xm11_261 (kf_w_at (d := d) L6 e8) (LY.lt L6 (by decide)) (LY.k5 L6) (by decide) rfl rfl (dl0 (by decide)) (by decide) (Nat.le_of_ble_eq_true rfl) ?_
    rintro _ _ ⟨⟨rfl, rfl⟩, L9⟩
    replace hf := xb_some hf
    obtain ⟨r10, e11, hf⟩ := hf
    refine r_calls rfl xsX11_isValue xm11_264 (kf_t_isValue (d := d) L9 e11) rfl rfl (dl (by decide)) (by decide) (Nat.le_of_ble_eq_true rfl) ?_
    rintro _ _ ⟨⟨rfl, rfl⟩, L12⟩
    refine r_if_ne (tgt := 47) rfl rfl (fun qc13 => ?_) (fun qc13 => ?_)
    · replace hf := xi_pos hf qc13
      refine XS.go (XS.lcl (L3 := [some (.ref 0), some (.ref x1), some (.int x2), some (.int (x3 + 1))]) (s_inc rfl rfl (Nat.le_of_ble_eq_true rfl)) rfl) ?_
      refine XS.go (s_goto (tgt := 16) rfl rfl) ?_
      exact XR.forget (L2 := [some (.ref 0), some (.ref x1), some (.int x2), some (.int (x3 + 1))]) ⟨rfl, ⟨rfl, ⟨rfl, ⟨rfl, trivial⟩⟩⟩⟩ (hK16 x1 x2 (x3 + 1) _ L12 hf)
    · replace hf := xi_neg hf qc13
      refine XS.go (s_iconst (v := 0) rfl rfl) ?_
      cases hf
      exact XR.retz rfl rfl (by decide) (fun hret => ⟨_, hret, ⟨rfl, rfl⟩, L12⟩)
def b_t_areLeaves_16 : Nat → Nat → Int32 → Int32 → XH → Option (Int32 × XH)
  | 0, _, _, _, _ => none
  | n + 1, x1, x2, x3, h => s_t_areLeaves_16 (b_t_areLeaves_16 n) x1 x2 x3 h
theorem kb_t_areLeaves_16 {l : Launch} {G : XG} {d : Nat} {n : Nat} {x1 : Nat} {x2 : Int32} {x3 : Int32} {h : XH} {r : Int32 × XH} (L0 : LY h) (hf : b_t_areLeaves_16 n x1 x2 x3 h = some r) : XR l G xEX11_areLeaves (d + 2) (16, [some (.ref 0), some (.ref x1), some (.int x2), some (.int x3)], [], h) (fun C => ∃ v, xRet xEX11_areLeaves C v ∧ (C.2.2.2 = r.2 ∧ v = some (.int r.1)) ∧ LY r.2) := by
  induction n generalizing x1 x2 x3 h with
  | zero => cases hf
  | succ n ih => exact ks_t_areLeaves_16 (fun x1 x2 x3 h L0 hf => ih (h := h) (x1 := x1) (x2 := x2) (x3 := x3) L0 hf) L0 hf
def f_t_areLeaves (a0 : Nat) (a1 : Int32) (h : XH) : Option (Int32 × XH) := (if a0 < hz h ∧ hk h a0 = 2 then (if 1 ≤ (hi h a0 11) then (b_t_areLeaves_16 100000 a0 a1 0 h) else (some (0, h))) else none)
set_option maxRecDepth 20000 in
theorem kf_t_areLeaves {l : Launch} {G : XG} {d : Nat} {a0 : Nat} {a1 : Int32} {h : XH} {r : Int32 × XH} (L0 : LY h) (hf : f_t_areLeaves a0 a1 h = some r) : XC l G xEX11_areLeaves (d + 2) [.ref 0, .ref a0, .int a1] h (fun v h2 => (h2 = r.2 ∧ v = some (.int r.1)) ∧ LY r.2) := by
  refine XC.virt xvX11_areLeaves (Nat.le_of_ble_eq_true rfl) ?_
  unfold f_t_areLeaves at hf
  refine XR.norm (L3 := [some (.ref 0), some (.ref a0), some (.int a1), none]) rfl ?_
  refine XS.go (s_aloadn rfl rfl rfl) ?_
  refine XS.go (s_ifnull_r rfl) ?_
  refine XS.go (s_aloadn rfl rfl rfl) ?_
  replace hf := xi_none hf
  obtain ⟨qk14, hf⟩ := hf
  refine XS.go (s_getie rfl xf11_255 qk14.1 qk14.2 (by decide) rfl rfl) ?_
  refine XS.go (s_iconst (v := 1) rfl rfl) ?_
  refine r_icmp_ge (tgt := 14) rfl rfl (fun qc15 => ?_) (fun qc15 => ?_)
  · replace hf := xi_pos hf qc15
    refine XS.go (s_iconst (v := 0) rfl rfl) ?_
    refine XS.go (XS.lcl (L3 := [some (.ref 0), some (.ref a0), some (.int a1), some (.int 0)]) (s_istoren rfl rfl (Nat.le_of_ble_eq_true rfl)) rfl) ?_
    exact XR.forget (L2 := [some (.ref 0), some (.ref a0), some (.int a1), some (.int 0)]) ⟨rfl, ⟨rfl, ⟨rfl, ⟨rfl, trivial⟩⟩⟩⟩ (kb_t_areLeaves_16 L0 hf)
  · replace hf := xi_neg hf qc15
    refine XS.go (s_iconst (v := 0) rfl rfl) ?_
    cases hf
    exact XR.retz rfl rfl (by decide) (fun hret => ⟨_, hret, ⟨rfl, rfl⟩, L0⟩)
def b_t_areElements_80 (K37 : Int32 → Int32 → Int32 → Int32 → Int32 → XH → Option (Int32 × XH)) (x1 : Int32) (x2 : Int32) (x3 : Int32) (x4 : Int32) (x5 : Int32) (y0 : Int32) (h : XH) : Option (Int32 × XH) := (if ¬ y0 = 0 then (K37 x1 x2 x3 x4 (x5 + 1) h) else (some (0, h)))
set_option maxRecDepth 20000 in
theorem kb_t_areElements_80 {l : Launch} {G : XG} {d : Nat} {K37 : Int32 → Int32 → Int32 → Int32 → Int32 → XH → Option (Int32 × XH)} {x1 : Int32} {x2 : Int32} {x3 : Int32} {x4 : Int32} {x5 : Int32} {y0 : Int32} {h : XH} {r : Int32 × XH} (hK37 : ∀ (x1 : Int32) (x2 : Int32) (x3 : Int32) (x4 : Int32) (x5 : Int32) (h : XH), LY h → K37 x1 x2 x3 x4 x5 h = some r → XR l G xEX11_areElements (d + 3) (37, [some (.ref 0), some (.int x1), some (.int x2), some (.int x3), some (.int x4), some (.int x5), none, none, none], [], h) (fun C => ∃ v, xRet xEX11_areElements C v ∧ (C.2.2.2 = r.2 ∧ v = some (.int r.1)) ∧ LY r.2)) (L0 : LY h) (hf : b_t_areElements_80 K37 x1 x2 x3 x4 x5 y0 h = some r) : XR l G xEX11_areElements (d + 3) (80, [some (.ref 0), some (.int x1), some (.int x2), some (.int x3), some (.int x4), some (.int x5), none, none, none], [(.int y0)], h) (fun C => ∃ v, xRet xEX11_areElements C v ∧ (C.2.2.2 = r.2 ∧ v = some (.int r.1)) ∧ LY r.2) := by
  unfold b_t_areElements_80 at hf
  refine XS.go (XS.lcl (L3 := [some (.ref 0), some (.int x1), some (.int x2), some (.int x3), some (.int x4), some (.int x5), none, none, some (.int y0)]) (s_istore rfl (Nat.le_of_ble_eq_true rfl)) rfl) ?_
  refine XS.go (s_iload rfl rfl) ?_
  refine r_if_ne (tgt := 89) rfl rfl (fun qc1 => ?_) (fun qc1 => ?_)
  · replace hf := xi_pos hf qc1
    refine XS.go (XS.lcl (L3 := [some (.ref 0), some (.int x1), some (.int x2), some (.int x3), some (.int x4), some (.int (x5 + 1)), none, none, some (.int y0)]) (s_inc rfl rfl (Nat.le_of_ble_eq_true rfl)) rfl) ?_
    refine XS.go (s_goto (tgt := 37) rfl rfl) ?_
    exact XR.forget (L2 := [some (.ref 0), some (.int x1), some (.int x2), some (.int x3), some (.int x4), some (.int (x5 + 1)), none, none, none]) ⟨rfl, ⟨rfl, ⟨rfl, ⟨rfl, ⟨rfl, ⟨rfl, trivial⟩⟩⟩⟩⟩⟩ (hK37 x1 x2 x3 x4 (x5 + 1) _ L0 hf)
  · replace hf := xi_neg hf qc1
    refine XS.go (s_iconst (v := 0) rfl rfl) ?_
    cases hf
    exact XR.retz rfl rfl (by decide) (fun hret => ⟨_, hret, ⟨rfl, rfl⟩, L0⟩)
def s_t_areElements_37 (K37 : Int32 → Int32 → Int32 → Int32 → Int32 → XH → Option (Int32 × XH)) (x1 : Int32) (x2 : Int32) (x3 : Int32) (x4 : Int32) (x5 : Int32) (h : XH) : Option (Int32 × XH) := (if x3 ≤ x5 then (some (1, h)) else (Option.bind (f_w_at 5 x5 h) fun r3 => (if ¬ x1 = 0 then (Option.bind (f_u_isThing r3.1 x1 x4 (-1) r3.2) fun r7 => (b_t_areElements_80 K37 x1 x2 x3 x4 x5 r7.1 r7.2)) else (Option.bind (f_t_isValue x2 r3.1 r3.2) fun r10 => (b_t_areElements_80 K37 x1 x2 x3 x4 x5 r10.1 r10.2)))))
set_option maxRecDepth 20000 in
theorem ks_t_areElements_37 {l : Launch} {G : XG} {d : Nat} {K37 : Int32 → Int32 → Int32 → Int32 → Int32 → XH → Option (Int32 × XH)} {x1 : Int32} {x2 : Int32} {x3 : Int32} {x4 : Int32} {x5 : Int32} {h : XH} {r : Int32 × XH} (hK37 : ∀ (x1 : Int32) (x2 : Int32) (x3 : Int32) (x4 : Int32) (x5 : Int32) (h : XH), LY h → K37 x1 x2 x3 x4 x5 h = some r → XR l G xEX11_areElements (d + 3) (37, [some (.ref 0), some (.int x1), some (.int x2), some (.int x3), some (.int x4), some (.int x5), none, none, none], [], h) (fun C => ∃ v, xRet xEX11_areElements C v ∧ (C.2.2.2 = r.2 ∧ v = some (.int r.1)) ∧ LY r.2)) (L0 : LY h) (hf : s_t_areElements_37 K37 x1 x2 x3 x4 x5 h = some r) : XR l G xEX11_areElements (d + 3) (37, [some (.ref 0), some (.int x1), some (.int x2), some (.int x3), some (.int x4), some (.int x5), none, none, none], [], h) (fun C => ∃ v, xRet xEX11_areElements C v ∧ (C.2.2.2 = r.2 ∧ v = some (.int r.1)) ∧ LY r.2) := by
  unfold s_t_areElements_37 at hf
  refine XS.go (s_iload rfl rfl) ?_
  refine XS.go (s_iloadn rfl rfl rfl) ?_
  refine r_icmp_ge (tgt := 95) rfl rfl (fun qc2 => ?_) (fun qc2 => ?_)
  · replace hf := xi_pos hf qc2
    refine XS.go (s_iconst (v := 1) rfl rfl) ?_
    cases hf
    exact XR.retz rfl rfl (by decide) (fun hret => ⟨_, hret, ⟨rfl, rfl⟩, L0⟩)
  · replace hf := xi_neg hf qc2
    refine XS.go (s_aloadn rfl rfl rfl) ?_
    refine XS.go (s_getr rfl xf11_22 (LY.lt L0 (by decide)) (LY.k0 L0) (by decide) rfl (LY.r0_2 L0)) ?_
    refine XS.go (s_iload rfl rfl) ?_
    replace hf := xb_some hf
    obtain ⟨r3, e4, hf⟩ := hf
    refine r_callv rfl xvX10_at xm11_261 (kf_w_at (d := d) L0 e4) (LY.lt L0 (by decide)) (LY.k5 L0) (by decide) rfl rfl (dl0 (by decide)) (by decide) (Nat.le_of_ble_eq_true rfl) ?_
    rintro _ _ ⟨⟨rfl, rfl⟩, L5⟩
    refine XS.go (XS.lcl (L3 := [some (.ref 0), some (.int x1), some (.int x2), some (.int x3), some (.int x4), some (.int x5), some (.long r3.1), none, none]) (s_lstore rfl (Nat.le_of_ble_eq_true rfl)) rfl) ?_
    refine XS.go (s_iloadn rfl rfl rfl) ?_
    refine r_if_ne (tgt := 67) rfl rfl (fun qc6 => ?_) (fun qc6 => ?_)
    · replace hf := xi_pos hf qc6
      refine XS.go (s_aloadn rfl rfl rfl) ?_
      refine XS.go (s_getr rfl xf11_46 (LY.lt L5 (by decide)) (LY.k0 L5) (by decide) rfl (LY.r0_6 L5)) ?_
      refine XS.go (s_lload rfl rfl) ?_
      refine XS.go (s_iloadn rfl rfl rfl) ?_
      refine XS.go (s_iload rfl rfl) ?_
      refine XS.go (s_iconst (v := (-1)) rfl rfl) ?_
      replace hf := xb_some hf
      obtain ⟨r7, e8, hf⟩ := hf
      refine r_callv rfl xvX0_isThing xm11_268 (kf_u_isThing (d := d) L5 e8) (LY.lt L5 (by decide)) (LY.k1244 L5) (by decide) rfl rfl (dl0 (by decide)) (by decide) (Nat.le_of_ble_eq_true rfl) ?_
      rintro _ _ ⟨⟨rfl, rfl⟩, L9⟩
      exact XR.forget (L2 := [some (.ref 0), some (.int x1), some (.int x2), some (.int x3), some (.int x4), some (.int x5), none, none, none]) ⟨rfl, ⟨rfl, ⟨rfl, ⟨rfl, ⟨rfl, ⟨rfl, trivial⟩⟩⟩⟩⟩⟩ (kb_t_areElements_80 hK37 L9 hf)
    · replace hf := xi_neg hf qc6
      refine XS.go (s_iloadn rfl rfl rfl) ?_
      refine XS.go (s_lload rfl rfl) ?_
      replace hf := xb_some hf
      obtain ⟨r10, e11, hf⟩ := hf
      refine r_calls rfl xsX11_isValue xm11_264 (kf_t_isValue (d := d) L5 e11) rfl rfl (dl (by decide)) (by decide) (Nat.le_of_ble_eq_true rfl) ?_
      rintro _ _ ⟨⟨rfl, rfl⟩, L12⟩
      refine XS.go (s_goto (tgt := 80) rfl rfl) ?_
      exact XR.forget (L2 := [some (.ref 0), some (.int x1), some (.int x2), some (.int x3), some (.int x4), some (.int x5), none, none, none]) ⟨rfl, ⟨rfl, ⟨rfl, ⟨rfl, ⟨rfl, ⟨rfl, trivial⟩⟩⟩⟩⟩⟩ (kb_t_areElements_80 hK37 L12 hf)
def b_t_areElements_37 : Nat → Int32 → Int32 → Int32 → Int32 → Int32 → XH → Option (Int32 × XH)
  | 0, _, _, _, _, _, _ => none
  | n + 1, x1, x2, x3, x4, x5, h => s_t_areElements_37 (b_t_areElements_37 n) x1 x2 x3 x4 x5 h
theorem kb_t_areElements_37 {l : Launch} {G : XG} {d : Nat} {n : Nat} {x1 : Int32} {x2 : Int32} {x3 : Int32} {x4 : Int32} {x5 : Int32} {h : XH} {r : Int32 × XH} (L0 : LY h) (hf : b_t_areElements_37 n x1 x2 x3 x4 x5 h = some r) : XR l G xEX11_areElements (d + 3) (37, [some (.ref 0), some (.int x1), some (.int x2), some (.int x3), some (.int x4), some (.int x5), none, none, none], [], h) (fun C => ∃ v, xRet xEX11_areElements C v ∧ (C.2.2.2 = r.2 ∧ v = some (.int r.1)) ∧ LY r.2) := by
  induction n generalizing x1 x2 x3 x4 x5 h with
  | zero => cases hf
  | succ n ih => exact ks_t_areElements_37 (fun x1 x2 x3 x4 x5 h L0 hf => ih (h := h) (x1 := x1) (x2 := x2) (x3 := x3) (x4 := x4) (x5 := x5) L0 hf) L0 hf
def b_t_areElements_32 (x1 : Int32) (x2 : Int32) (x3 : Int32) (y0 : Int32) (h : XH) : Option (Int32 × XH) := (b_t_areElements_37 100000 x1 x2 x3 y0 0 h)
set_option maxRecDepth 20000 in
theorem kb_t_areElements_32 {l : Launch} {G : XG} {d : Nat} {x1 : Int32} {x2 : Int32} {x3 : Int32} {y0 : Int32} {h : XH} {r : Int32 × XH} (L0 : LY h) (hf : b_t_areElements_32 x1 x2 x3 y0 h = some r) : XR l G xEX11_areElements (d + 3) (32, [some (.ref 0), some (.int x1), some (.int x2), some (.int x3), none, none, none, none, none], [(.int y0)], h) (fun C => ∃ v, xRet xEX11_areElements C v ∧ (C.2.2.2 = r.2 ∧ v = some (.int r.1)) ∧ LY r.2) := by
  unfold b_t_areElements_32 at hf
  refine XS.go (XS.lcl (L3 := [some (.ref 0), some (.int x1), some (.int x2), some (.int x3), some (.int y0), none, none, none, none]) (s_istore rfl (Nat.le_of_ble_eq_true rfl)) rfl) ?_
  refine XS.go (s_iconst (v := 0) rfl rfl) ?_
  refine XS.go (XS.lcl (L3 := [some (.ref 0), some (.int x1), some (.int x2), some (.int x3), some (.int y0), some (.int 0), none, none, none]) (s_istore rfl (Nat.le_of_ble_eq_true rfl)) rfl) ?_
  exact XR.forget (L2 := [some (.ref 0), some (.int x1), some (.int x2), some (.int x3), some (.int y0), some (.int 0), none, none, none]) ⟨rfl, ⟨rfl, ⟨rfl, ⟨rfl, ⟨rfl, ⟨rfl, trivial⟩⟩⟩⟩⟩⟩ (kb_t_areElements_37 L0 hf)
def f_t_areElements (a0 : Int32) (a1 : Int32) (a2 : Int32) (h : XH) : Option (Int32 × XH) := (if ¬ a0 = 2 then (if ¬ a0 = 1 then (b_t_areElements_32 a0 a1 a2 a1 h) else (b_t_areElements_32 a0 a1 a2 0 h)) else (Option.bind (hr h 0 4) fun b15 => (if b15 < hz h ∧ hk h b15 = 9 then (Option.bind (hr h b15 0) fun b18 => (if b18 < hz h ∧ hk h b18 = 4 then (Option.bind (f_g_at b18 a1 h) fun r21 => (Option.bind (r21.1) fun b24 => (Option.bind (f_t_areLeaves b24 a2 r21.2) fun r26 => (if r26.1 = 0 ∨ r26.1 = 1 then (some (r26.1, r26.2)) else none)))) else none)) else none)))
set_option maxRecDepth 20000 in
theorem kf_t_areElements {l : Launch} {G : XG} {d : Nat} {a0 : Int32} {a1 : Int32} {a2 : Int32} {h : XH} {r : Int32 × XH} (L0 : LY h) (hf : f_t_areElements a0 a1 a2 h = some r) : XC l G xEX11_areElements (d + 3) [.ref 0, .int a0, .int a1, .int a2] h (fun v h2 => (h2 = r.2 ∧ v = some (.int r.1)) ∧ LY r.2) := by
  refine XC.virt xvX11_areElements (Nat.le_of_ble_eq_true rfl) ?_
  unfold f_t_areElements at hf
  refine XR.norm (L3 := [some (.ref 0), some (.int a0), some (.int a1), some (.int a2), none, none, none, none, none]) rfl ?_
  refine XS.go (s_iloadn rfl rfl rfl) ?_
  refine XS.go (s_iconst (v := 2) rfl rfl) ?_
  refine r_icmp_ne (tgt := 22) rfl rfl (fun qc13 => ?_) (fun qc13 => ?_)
  · replace hf := xi_pos hf qc13
    refine XS.go (s_iloadn rfl rfl rfl) ?_
    refine XS.go (s_iconst (v := 1) rfl rfl) ?_
    refine r_icmp_ne (tgt := 31) rfl rfl (fun qc14 => ?_) (fun qc14 => ?_)
    · replace hf := xi_pos hf qc14
      refine XS.go (s_iloadn rfl rfl rfl) ?_
      exact XR.forget (L2 := [some (.ref 0), some (.int a0), some (.int a1), some (.int a2), none, none, none, none, none]) ⟨rfl, ⟨rfl, ⟨rfl, ⟨rfl, trivial⟩⟩⟩⟩ (kb_t_areElements_32 L0 hf)
    · replace hf := xi_neg hf qc14
      refine XS.go (s_iconst (v := 0) rfl rfl) ?_
      refine XS.go (s_goto (tgt := 32) rfl rfl) ?_
      exact XR.forget (L2 := [some (.ref 0), some (.int a0), some (.int a1), some (.int a2), none, none, none, none, none]) ⟨rfl, ⟨rfl, ⟨rfl, ⟨rfl, trivial⟩⟩⟩⟩ (kb_t_areElements_32 L0 hf)
  · replace hf := xi_neg hf qc13
    refine XS.go (s_aloadn rfl rfl rfl) ?_
    refine XS.go (s_aloadn rfl rfl rfl) ?_
    replace hf := xb_some hf
    obtain ⟨b15, qr16, hf⟩ := hf
    refine XS.go (s_getr rfl xf11_36 (LY.lt L0 (by decide)) (LY.k0 L0) (by decide) rfl qr16) ?_
    replace hf := xi_none hf
    obtain ⟨qk17, hf⟩ := hf
    replace hf := xb_some hf
    obtain ⟨b18, qr19, hf⟩ := hf
    refine XS.go (s_getr rfl xf11_125 qk17.1 qk17.2 (by decide) rfl qr19) ?_
    refine XS.go (s_iloadn rfl rfl rfl) ?_
    replace hf := xi_none hf
    obtain ⟨qk20, hf⟩ := hf
    replace hf := xb_some hf
    obtain ⟨r21, e22, hf⟩ := hf
    refine r_callv rfl xvX4_at xm11_134 (kf_g_at (d := d) L0 e22) qk20.1 qk20.2 (by decide) rfl rfl (dl0 (by decide)) (by decide) (Nat.le_of_ble_eq_true rfl) ?_
    rintro _ _ ⟨⟨rfl, rfl⟩, L23⟩
    refine XS.go (s_iloadn rfl rfl rfl) ?_
    replace hf := xb_some hf
    obtain ⟨b24, qo25, hf⟩ := hf
    try rw [qo25]
    replace hf := xb_some hf
    obtain ⟨r26, e27, hf⟩ := hf
    refine r_callv rfl xvX11_areLeaves xm11_257 (kf_t_areLeaves (d := d) L23 e27) (LY.lt L23 (by decide)) (LY.k0 L23) (by decide) rfl rfl (dl (by decide)) (by decide) (Nat.le_of_ble_eq_true rfl) ?_
    rintro _ _ ⟨⟨rfl, rfl⟩, L28⟩
    replace hf := xi_none hf
    obtain ⟨qk29, hf⟩ := hf
    cases hf
    exact XR.retz rfl rfl qk29 (fun hret => ⟨_, hret, ⟨rfl, rfl⟩, L28⟩)
def f_t_leafCount (a0 : Option Nat) (h : XH) : Option (Int32 × XH) := (Option.elim (a0) (some (0, h)) fun b2 => (if b2 < hz h ∧ hk h b2 = 2 then (some ((hi h b2 11), h)) else none))
set_option maxRecDepth 20000 in
theorem kf_t_leafCount {l : Launch} {G : XG} {d : Nat} {a0 : Option Nat} {h : XH} {r : Int32 × XH} (L0 : LY h) (hf : f_t_leafCount a0 h = some r) : XC l G xEX11_leafCount d [va_rf a0] h (fun v h2 => (h2 = r.2 ∧ v = some (.int r.1)) ∧ LY r.2) := by
  refine XC.stat xsX11_leafCount (by cases a0 <;> exact Nat.le_of_ble_eq_true rfl) ?_
  unfold f_t_leafCount at hf
  refine XR.norm (L3 := [some (va_rf a0)]) (by cases a0 <;> rfl) ?_
  refine XS.go (s_aloadnO rfl rfl rfl) ?_
  refine r_ifnonnull (tgt := 8) rfl rfl (fun qn1 => ?_) (fun b2 qn1 => ?_)
  · replace hf := xo_none hf qn1
    try rw [qn1]
    refine XS.go (s_iconst (v := 0) rfl rfl) ?_
    refine XS.go (s_goto (tgt := 12) rfl rfl) ?_
    cases hf
    exact XR.reti rfl rfl (fun hret => ⟨_, hret, ⟨rfl, rfl⟩, L0⟩)
  · replace hf := xo_some hf qn1
    try rw [qn1]
    refine XS.go (s_aloadn rfl rfl rfl) ?_
    replace hf := xi_none hf
    obtain ⟨qk3, hf⟩ := hf
    refine XS.go (s_getie rfl xf11_255 qk3.1 qk3.2 (by decide) rfl rfl) ?_
    cases hf
    exact XR.reti rfl rfl (fun hret => ⟨_, hret, ⟨rfl, rfl⟩, L0⟩)
def f_t_valuesOfElement (a0 : Int32) (a1 : Int32) (h : XH) : Option (Int32 × XH) := (if a0 = 0 then (Option.bind (f_t_isScalar a1 h) fun r2 => (if r2.1 = 0 then (some (0, r2.2)) else (some (1, r2.2)))) else (if a0 = 1 then (some (1, h)) else (if a0 = 2 then (Option.bind (hr h 0 4) fun b6 => (if b6 < hz h ∧ hk h b6 = 9 then (Option.bind (hr h b6 0) fun b9 => (if b9 < hz h ∧ hk h b9 = 4 then (Option.bind (f_g_at b9 a1 h) fun r12 => (Option.bind (f_t_leafCount r12.1 r12.2) fun r15 => (some (r15.1, r15.2)))) else none)) else none)) else (if a0 = 3 then (Option.bind (hr h 0 4) fun b18 => (if b18 < hz h ∧ hk h b18 = 9 then (Option.bind (hr h b18 1) fun b21 => (if b21 < hz h ∧ hk h b21 = 4 then (Option.bind (f_g_at b21 a1 h) fun r24 => (Option.elim (r24.1) (some (0, r24.2)) fun b28 => (some (1, r24.2)))) else none)) else none)) else (some (0, h))))))
set_option maxRecDepth 20000 in
theorem kf_t_valuesOfElement {l : Launch} {G : XG} {d : Nat} {a0 : Int32} {a1 : Int32} {h : XH} {r : Int32 × XH} (L0 : LY h) (hf : f_t_valuesOfElement a0 a1 h = some r) : XC l G xEX11_valuesOfElement (d + 1) [.ref 0, .int a0, .int a1] h (fun v h2 => (h2 = r.2 ∧ v = some (.int r.1)) ∧ LY r.2) := by
  refine XC.virt xvX11_valuesOfElement (Nat.le_of_ble_eq_true rfl) ?_
  unfold f_t_valuesOfElement at hf
  refine XR.norm (L3 := [some (.ref 0), some (.int a0), some (.int a1)]) rfl ?_
  refine XS.go (s_iloadn rfl rfl rfl) ?_
  by_cases qs1_0 : a0 = 0
  · replace hf := xi_pos hf qs1_0
    refine XS.go (s_tswI (tgt := 32) rfl (by rw [qs1_0]; decide) (by rw [qs1_0]; decide) (by rw [qs1_0]; rfl) rfl) ?_
    refine XS.go (s_iloadn rfl rfl rfl) ?_
    replace hf := xb_some hf
    obtain ⟨r2, e3, hf⟩ := hf
    refine r_calls rfl xsX11_isScalar xm11_249 (kf_t_isScalar (d := d) L0 e3) rfl rfl (dl0 (by decide)) (by decide) (Nat.le_of_ble_eq_true rfl) ?_
    rintro _ _ ⟨⟨rfl, rfl⟩, L4⟩
    refine r_if_eq (tgt := 43) rfl rfl (fun qc5 => ?_) (fun qc5 => ?_)
    · replace hf := xi_pos hf qc5
      refine XS.go (s_iconst (v := 0) rfl rfl) ?_
      cases hf
      exact XR.reti rfl rfl (fun hret => ⟨_, hret, ⟨rfl, rfl⟩, L4⟩)
    · replace hf := xi_neg hf qc5
      refine XS.go (s_iconst (v := 1) rfl rfl) ?_
      refine XS.go (s_goto (tgt := 44) rfl rfl) ?_
      cases hf
      exact XR.reti rfl rfl (fun hret => ⟨_, hret, ⟨rfl, rfl⟩, L4⟩)
  replace hf := xi_neg hf qs1_0
  by_cases qs1_1 : a0 = 1
  · replace hf := xi_pos hf qs1_1
    refine XS.go (s_tswI (tgt := 45) rfl (by rw [qs1_1]; decide) (by rw [qs1_1]; decide) (by rw [qs1_1]; rfl) rfl) ?_
    refine XS.go (s_iconst (v := 1) rfl rfl) ?_
    cases hf
    exact XR.reti rfl rfl (fun hret => ⟨_, hret, ⟨rfl, rfl⟩, L0⟩)
  replace hf := xi_neg hf qs1_1
  by_cases qs1_2 : a0 = 2
  · replace hf := xi_pos hf qs1_2
    refine XS.go (s_tswI (tgt := 47) rfl (by rw [qs1_2]; decide) (by rw [qs1_2]; decide) (by rw [qs1_2]; rfl) rfl) ?_
    refine XS.go (s_aloadn rfl rfl rfl) ?_
    replace hf := xb_some hf
    obtain ⟨b6, qr7, hf⟩ := hf
    refine XS.go (s_getr rfl xf11_36 (LY.lt L0 (by decide)) (LY.k0 L0) (by decide) rfl qr7) ?_
    replace hf := xi_none hf
    obtain ⟨qk8, hf⟩ := hf
    replace hf := xb_some hf
    obtain ⟨b9, qr10, hf⟩ := hf
    refine XS.go (s_getr rfl xf11_125 qk8.1 qk8.2 (by decide) rfl qr10) ?_
    refine XS.go (s_iloadn rfl rfl rfl) ?_
    replace hf := xi_none hf
    obtain ⟨qk11, hf⟩ := hf
    replace hf := xb_some hf
    obtain ⟨r12, e13, hf⟩ := hf
    refine r_callv rfl xvX4_at xm11_134 (kf_g_at (d := d) L0 e13) qk11.1 qk11.2 (by decide) rfl rfl (dl0 (by decide)) (by decide) (Nat.le_of_ble_eq_true rfl) ?_
    rintro _ _ ⟨⟨rfl, rfl⟩, L14⟩
    replace hf := xb_some hf
    obtain ⟨r15, e16, hf⟩ := hf
    refine r_calls rfl xsX11_leafCount xm11_252 (kf_t_leafCount (d := d) L14 e16) rfl rfl (dl0 (by decide)) (by decide) (Nat.le_of_ble_eq_true rfl) ?_
    rintro _ _ ⟨⟨rfl, rfl⟩, L17⟩
    cases hf
    exact XR.reti rfl rfl (fun hret => ⟨_, hret, ⟨rfl, rfl⟩, L17⟩)
  replace hf := xi_neg hf qs1_2
  by_cases qs1_3 : a0 = 3
  · replace hf := xi_pos hf qs1_3
    refine XS.go (s_tswI (tgt := 62) rfl (by rw [qs1_3]; decide) (by rw [qs1_3]; decide) (by rw [qs1_3]; rfl) rfl) ?_
    refine XS.go (s_aloadn rfl rfl rfl) ?_
    replace hf := xb_some hf
    obtain ⟨b18, qr19, hf⟩ := hf
    refine XS.go (s_getr rfl xf11_36 (LY.lt L0 (by decide)) (LY.k0 L0) (by decide) rfl qr19) ?_
    replace hf := xi_none hf
    obtain ⟨qk20, hf⟩ := hf
    replace hf := xb_some hf
    obtain ⟨b21, qr22, hf⟩ := hf
    refine XS.go (s_getr rfl xf11_116 qk20.1 qk20.2 (by decide) rfl qr22) ?_
    refine XS.go (s_iloadn rfl rfl rfl) ?_
    replace hf := xi_none hf
    obtain ⟨qk23, hf⟩ := hf
    replace hf := xb_some hf
    obtain ⟨r24, e25, hf⟩ := hf
    refine r_callv rfl xvX4_at xm11_134 (kf_g_at (d := d) L0 e25) qk23.1 qk23.2 (by decide) rfl rfl (dl0 (by decide)) (by decide) (Nat.le_of_ble_eq_true rfl) ?_
    rintro _ _ ⟨⟨rfl, rfl⟩, L26⟩
    refine r_ifnonnull (tgt := 80) rfl rfl (fun qn27 => ?_) (fun b28 qn27 => ?_)
    · replace hf := xo_none hf qn27
      try rw [qn27]
      refine XS.go (s_iconst (v := 0) rfl rfl) ?_
      refine XS.go (s_goto (tgt := 81) rfl rfl) ?_
      cases hf
      exact XR.reti rfl rfl (fun hret => ⟨_, hret, ⟨rfl, rfl⟩, L26⟩)
    · replace hf := xo_some hf qn27
      try rw [qn27]
      refine XS.go (s_iconst (v := 1) rfl rfl) ?_
      cases hf
      exact XR.reti rfl rfl (fun hret => ⟨_, hret, ⟨rfl, rfl⟩, L26⟩)
  replace hf := xi_neg hf qs1_3
  have qs1_o : (a0).toInt < 0 ∨ 3 < (a0).toInt := by
    refine tsw_out 0 3 (by decide) ?_
    intro k h1 h2
    have z : k = 0 ∨ k = 1 ∨ k = 2 ∨ k = 3 := by omega
    rcases z with rfl | rfl | rfl | rfl
    · exact qs1_0
    · exact qs1_1
    · exact qs1_2
    · exact qs1_3
  refine XS.go (s_tswO (tgt := 82) rfl qs1_o rfl) ?_
  refine XS.go (s_iconst (v := 0) rfl rfl) ?_
  cases hf
  exact XR.reti rfl rfl (fun hret => ⟨_, hret, ⟨rfl, rfl⟩, L0⟩)
def b_t_vector_79 (x1 : Int32) (x3 : Int32) (x4 : Int32) (y0 : Int32) (h : XH) : Option (Sum Int32 Nat × XH) := (Option.bind (hr h 0 4) fun b1 => (if ¬ x4 = 0 then (Option.bind (f_u_addVector b1 x1 y0 5 (x3 / x4) h) fun r4 => (if ¬ r4.1 = (-1) then (some (Sum.inl r4.1, r4.2)) else (if hz r4.2 < 1000000 then (some (Sum.inr 2, hthr r4.2)) else none))) else none))
set_option maxRecDepth 20000 in
theorem kb_t_vector_79 {l : Launch} {G : XG} {d : Nat} {x1 : Int32} {x3 : Int32} {x4 : Int32} {y0 : Int32} {h : XH} {r : Sum Int32 Nat × XH} (L0 : LY h) (hf : b_t_vector_79 x1 x3 x4 y0 h = some r) : XR l G xEX11_vector (d + 6) (79, [some (.ref 0), some (.int x1), none, some (.int x3), some (.int x4), none, none], [(.int y0)], h) (fun C => (∃ v, xRet xEX11_vector C v ∧ (C.2.2.2 = r.2 ∧ ∃ x, r.1 = Sum.inl x ∧ v = some (.int x)) ∧ LY r.2) ∨ ∃ k E, r.1 = Sum.inr k ∧ xXs[k]? = some E ∧ XThrown xEX11_vector C E ∧ hthr C.2.2.2 = r.2 ∧ LY r.2) := by
  unfold b_t_vector_79 at hf
  refine XS.go (XS.lcl (L3 := [some (.ref 0), some (.int x1), none, some (.int x3), some (.int x4), some (.int y0), none]) (s_istore rfl (Nat.le_of_ble_eq_true rfl)) rfl) ?_
  refine XS.go (s_aloadn rfl rfl rfl) ?_
  refine XS.go (s_getr rfl xf11_46 (LY.lt L0 (by decide)) (LY.k0 L0) (by decide) rfl (LY.r0_6 L0)) ?_
  refine XS.go (s_aloadn rfl rfl rfl) ?_
  replace hf := xb_some hf
  obtain ⟨b1, qr2, hf⟩ := hf
  refine XS.go (s_getr rfl xf11_36 (LY.lt L0 (by decide)) (LY.k0 L0) (by decide) rfl qr2) ?_
  refine XS.go (s_iloadn rfl rfl rfl) ?_
  refine XS.go (s_iload rfl rfl) ?_
  refine XS.go (s_aloadn rfl rfl rfl) ?_
  refine XS.go (s_getr rfl xf11_22 (LY.lt L0 (by decide)) (LY.k0 L0) (by decide) rfl (LY.r0_2 L0)) ?_
  refine XS.go (s_iloadn rfl rfl rfl) ?_
  refine XS.go (s_iload rfl rfl) ?_
  replace hf := xi_none hf
  obtain ⟨qk3, hf⟩ := hf
  refine XS.go (s_idiv qk3 rfl) ?_
  replace hf := xb_some hf
  obtain ⟨r4, e5, hf⟩ := hf
  refine r_callv rfl xvX0_addVector xm11_243 (kf_u_addVector (d := d) L0 e5) (LY.lt L0 (by decide)) (LY.k1244 L0) (by decide) rfl rfl (dl (by decide)) (by decide) (Nat.le_of_ble_eq_true rfl) ?_
  rintro _ _ ⟨⟨rfl, rfl⟩, L6⟩
  refine XS.go (XS.lcl (L3 := [some (.ref 0), some (.int x1), none, some (.int x3), some (.int x4), some (.int y0), some (.int r4.1)]) (s_istore rfl (Nat.le_of_ble_eq_true rfl)) rfl) ?_
  refine XS.go (s_iload rfl rfl) ?_
  refine XS.go (s_iconst (v := (-1)) rfl rfl) ?_
  refine r_icmp_ne (tgt := 121) rfl rfl (fun qc7 => ?_) (fun qc7 => ?_)
  · replace hf := xi_pos hf qc7
    refine XS.go (s_iload rfl rfl) ?_
    cases hf
    exact XR.reti rfl rfl (fun hret => Or.inl ⟨_, hret, ⟨rfl, ⟨_, rfl, rfl⟩⟩, L6⟩)
  · replace hf := xi_neg hf qc7
    replace hf := xi_none hf
    obtain ⟨qk8, hf⟩ := hf
    cases hf
    exact XR.here (Or.inr ⟨2, _, rfl, rfl, ⟨225, 247, 229, 22, _, rfl, xthr2, ⟨⟨rfl, rfl, rfl⟩, Or.inl ⟨rfl, rfl, rfl⟩⟩, qk8⟩, rfl, LY.new L6 qk8⟩)
def b_t_vector_59 (h : XH) : Option (Sum Int32 Nat × XH) := (if hz h < 1000000 then (some (Sum.inr 0, hthr h)) else none)
set_option maxRecDepth 20000 in
theorem kb_t_vector_59 {l : Launch} {G : XG} {d : Nat} {h : XH} {r : Sum Int32 Nat × XH} (L0 : LY h) (hf : b_t_vector_59 h = some r) : XR l G xEX11_vector (d + 6) (59, [none, none, none, none, none, none, none], [], h) (fun C => (∃ v, xRet xEX11_vector C v ∧ (C.2.2.2 = r.2 ∧ ∃ x, r.1 = Sum.inl x ∧ v = some (.int x)) ∧ LY r.2) ∨ ∃ k E, r.1 = Sum.inr k ∧ xXs[k]? = some E ∧ XThrown xEX11_vector C E ∧ hthr C.2.2.2 = r.2 ∧ LY r.2) := by
  unfold b_t_vector_59 at hf
  replace hf := xi_none hf
  obtain ⟨qk9, hf⟩ := hf
  cases hf
  exact XR.here (Or.inr ⟨0, _, rfl, rfl, ⟨103, 241, 107, 21, _, rfl, xthr0, ⟨⟨rfl, rfl, rfl⟩, Or.inl ⟨rfl, rfl, rfl⟩⟩, qk9⟩, rfl, LY.new L0 qk9⟩)
def f_t_vector (a0 : Int32) (a1 : Int32) (h : XH) : Option (Sum Int32 Nat × XH) := (Option.bind (f_w_takeAll 5 h) fun r10 => (Option.bind (f_u_isOpen r10.2) fun r13 => (if r13.1 = 0 then (Option.bind (f_t_valuesOfElement a0 a1 r13.2) fun r17 => (if r17.1 < 1 then (b_t_vector_59 r17.2) else (if ¬ r17.1 = 0 then (if ¬ (r10.1 - r10.1 / r17.1 * r17.1) = 0 then (b_t_vector_59 r17.2) else (Option.bind (f_t_areElements a0 a1 r10.1 r17.2) fun r23 => (if ¬ r23.1 = 0 then (if ¬ a0 = 1 then (b_t_vector_79 a0 r10.1 r17.1 a1 r23.2) else (b_t_vector_79 a0 r10.1 r17.1 0 r23.2)) else (b_t_vector_59 r23.2)))) else none))) else (if hz r13.2 < 1000000 then (some (Sum.inr 1, hthr r13.2)) else none))))
set_option maxRecDepth 20000 in
theorem kf_t_vector {l : Launch} {G : XG} {d : Nat} {a0 : Int32} {a1 : Int32} {h : XH} {r : Sum Int32 Nat × XH} (hl : l.stackTraces = false) (L0 : LY h) (hf : f_t_vector a0 a1 h = some r) : (∃ x, r.1 = Sum.inl x ∧ XC l G xEX11_vector (d + 6) [.ref 0, .int a0, .int a1] h (fun v h2 => (h2 = r.2 ∧ v = some (.int x)) ∧ LY r.2)) ∨ ∃ k E, r.1 = Sum.inr k ∧ xXs[k]? = some E ∧ XCx l G xEX11_vector (d + 6) [.ref 0, .int a0, .int a1] h E (fun h2 => h2 = r.2 ∧ LY r.2) := by
  refine xe_of (R := Int32) (V := fun x => some (.int x)) hl xvX11_vector rfl (Nat.le_of_ble_eq_true rfl) (by omega) ?_
  unfold f_t_vector at hf
  refine XR.norm (L3 := [some (.ref 0), some (.int a0), some (.int a1), none, none, none, none]) rfl ?_
  refine XS.go (s_aloadn rfl rfl rfl) ?_
  refine XS.go (s_getr rfl xf11_22 (LY.lt L0 (by decide)) (LY.k0 L0) (by decide) rfl (LY.r0_2 L0)) ?_
  replace hf := xb_some hf
  obtain ⟨r10, e11, hf⟩ := hf
  refine r_callv rfl xvX10_takeAll xm11_230 (kf_w_takeAll (d := d) L0 e11) (LY.lt L0 (by decide)) (LY.k5 L0) (by decide) rfl rfl (dl0 (by decide)) (by decide) (Nat.le_of_ble_eq_true rfl) ?_
  rintro _ _ ⟨⟨rfl, rfl⟩, L12⟩
  refine XS.go (XS.lcl (L3 := [some (.ref 0), some (.int a0), some (.int a1), some (.int r10.1), none, none, none]) (s_istoren rfl rfl (Nat.le_of_ble_eq_true rfl)) rfl) ?_
  refine XS.go (s_aloadn rfl rfl rfl) ?_
  refine XS.go (s_getr rfl xf11_46 (LY.lt L12 (by decide)) (LY.k0 L12) (by decide) rfl (LY.r0_6 L12)) ?_
  replace hf := xb_some hf
  obtain ⟨r13, e14, hf⟩ := hf
  refine r_callv rfl xvX0_isOpen xm11_213 (kf_u_isOpen (d := d) L12 e14) (LY.lt L12 (by decide)) (LY.k1244 L12) (by decide) rfl rfl (dl0 (by decide)) (by decide) (Nat.le_of_ble_eq_true rfl) ?_
  rintro _ _ ⟨⟨rfl, rfl⟩, L15⟩
  refine r_if_eq (tgt := 28) rfl rfl (fun qc16 => ?_) (fun qc16 => ?_)
  · replace hf := xi_pos hf qc16
    refine XS.go (s_aloadn rfl rfl rfl) ?_
    refine XS.go (s_iloadn rfl rfl rfl) ?_
    refine XS.go (s_iloadn rfl rfl rfl) ?_
    replace hf := xb_some hf
    obtain ⟨r17, e18, hf⟩ := hf
    refine r_callv rfl xvX11_valuesOfElement xm11_233 (kf_t_valuesOfElement (d := d) L15 e18) (LY.lt L15 (by decide)) (LY.k0 L15) (by decide) rfl rfl (dl (by decide)) (by decide) (Nat.le_of_ble_eq_true rfl) ?_
    rintro _ _ ⟨⟨rfl, rfl⟩, L19⟩
    refine XS.go (XS.lcl (L3 := [some (.ref 0), some (.int a0), some (.int a1), some (.int r10.1), some (.int r17.1), none, none]) (s_istore rfl (Nat.le_of_ble_eq_true rfl)) rfl) ?_
    refine XS.go (s_iload rfl rfl) ?_
    refine XS.go (s_iconst (v := 1) rfl rfl) ?_
    refine r_icmp_lt (tgt := 59) rfl rfl (fun qc20 => ?_) (fun qc20 => ?_)
    · replace hf := xi_pos hf qc20
      exact XR.forget (L2 := [none, none, none, none, none, none, none]) trivial (kb_t_vector_59 L19 hf)
    · replace hf := xi_neg hf qc20
      refine XS.go (s_iloadn rfl rfl rfl) ?_
      refine XS.go (s_iload rfl rfl) ?_
      replace hf := xi_none hf
      obtain ⟨qk21, hf⟩ := hf
      refine XS.go (s_irem qk21 rfl) ?_
      refine r_if_ne (tgt := 59) rfl rfl (fun qc22 => ?_) (fun qc22 => ?_)
      · replace hf := xi_pos hf qc22
        exact XR.forget (L2 := [none, none, none, none, none, none, none]) trivial (kb_t_vector_59 L19 hf)
      · replace hf := xi_neg hf qc22
        refine XS.go (s_aloadn rfl rfl rfl) ?_
        refine XS.go (s_iloadn rfl rfl rfl) ?_
        refine XS.go (s_iloadn rfl rfl rfl) ?_
        refine XS.go (s_iloadn rfl rfl rfl) ?_
        replace hf := xb_some hf
        obtain ⟨r23, e24, hf⟩ := hf
        refine r_callv rfl xvX11_areElements xm11_237 (kf_t_areElements (d := d) L19 e24) (LY.lt L19 (by decide)) (LY.k0 L19) (by decide) rfl rfl (dl (by decide)) (by decide) (Nat.le_of_ble_eq_true rfl) ?_
        rintro _ _ ⟨⟨rfl, rfl⟩, L25⟩
        refine r_if_ne (tgt := 69) rfl rfl (fun qc26 => ?_) (fun qc26 => ?_)
        · replace hf := xi_pos hf qc26
          refine XS.go (s_iloadn rfl rfl rfl) ?_
          refine XS.go (s_iconst (v := 1) rfl rfl) ?_
          refine r_icmp_ne (tgt := 78) rfl rfl (fun qc27 => ?_) (fun qc27 => ?_)
          · replace hf := xi_pos hf qc27
            refine XS.go (s_iloadn rfl rfl rfl) ?_
            exact XR.forget (L2 := [some (.ref 0), some (.int a0), none, some (.int r10.1), some (.int r17.1), none, none]) ⟨rfl, ⟨rfl, ⟨rfl, ⟨rfl, trivial⟩⟩⟩⟩ (kb_t_vector_79 L25 hf)
          · replace hf := xi_neg hf qc27
            refine XS.go (s_iconst (v := 0) rfl rfl) ?_
            refine XS.go (s_goto (tgt := 79) rfl rfl) ?_
            exact XR.forget (L2 := [some (.ref 0), some (.int a0), none, some (.int r10.1), some (.int r17.1), none, none]) ⟨rfl, ⟨rfl, ⟨rfl, ⟨rfl, trivial⟩⟩⟩⟩ (kb_t_vector_79 L25 hf)
        · replace hf := xi_neg hf qc26
          exact XR.forget (L2 := [none, none, none, none, none, none, none]) trivial (kb_t_vector_59 L25 hf)
  · replace hf := xi_neg hf qc16
    replace hf := xi_none hf
    obtain ⟨qk28, hf⟩ := hf
    cases hf
    exact XR.here (Or.inr ⟨1, _, rfl, rfl, ⟨216, 218, 220, 19, _, rfl, xthr1, ⟨⟨rfl, rfl, rfl⟩, Or.inl ⟨rfl, rfl, rfl⟩⟩, qk28⟩, rfl, LY.new L15 qk28⟩)
