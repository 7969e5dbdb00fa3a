/-! Methods as functions of the heap -/
def f_t_begin (a0 : Int32) (h : XH) : Option (Sum Unit Nat × XH) := (Option.bind (f_u_isOpen h) fun r1 => (if r1.1 = 0 then (Option.bind (hr r1.2 0 4) fun b5 => (if b5 < hz r1.2 ∧ hk r1.2 b5 = 9 then (Option.bind (hr r1.2 b5 1) fun b8 => (if b8 < hz r1.2 ∧ hk r1.2 b8 = 4 then (Option.bind (f_g_at b8 a0 r1.2) fun r11 => (Option.elim (r11.1) (if hz r11.2 < 1000000 then (some (Sum.inr 3, hthr r11.2)) else none) fun b15 => (Option.bind (f_u_open a0 r11.2) fun r17 => (some (Sum.inl (), r17.2))))) else none)) else none)) else (if hz r1.2 < 1000000 then (some (Sum.inr 1, hthr r1.2)) else none)))
set_option maxRecDepth 20000 in
theorem kf_t_begin {l : Launch} {G : XG} {d : Nat} {a0 : Int32} {h : XH} {r : Sum Unit Nat × XH} (hl : l.stackTraces = false) (L0 : LY h) (hf : f_t_begin a0 h = some r) : (∃ x, r.1 = Sum.inl x ∧ XC l G xEX11_begin (d + 6) [.ref 0, .int a0] h (fun v h2 => (h2 = r.2 ∧ v = none) ∧ LY r.2)) ∨ ∃ k E, r.1 = Sum.inr k ∧ xXs[k]? = some E ∧ XCx l G xEX11_begin (d + 6) [.ref 0, .int a0] h E (fun h2 => h2 = r.2 ∧ LY r.2) := by
  refine xe_of (R := Unit) (V := fun x => none) hl xvX11_begin rfl (Nat.le_of_ble_eq_true rfl) (by omega) ?_
  unfold f_t_begin at hf
  refine XR.norm (L3 := [some (.ref 0), some (.int a0)]) rfl ?_
  refine XS.go (s_aloadn rfl rfl rfl) ?_
  refine XS.go (s_getr rfl xf11_46 (LY.lt L0 (by decide)) (LY.k0 L0) (by decide) rfl (LY.r0_6 L0)) ?_
  replace hf := xb_some hf
  obtain ⟨r1, e2, hf⟩ := hf
  refine r_callv rfl xvX0_isOpen xm11_213 (kf_u_isOpen (d := d) L0 e2) (LY.lt L0 (by decide)) (LY.k1244 L0) (by decide) rfl rfl (dl0 (by decide)) (by decide) (Nat.le_of_ble_eq_true rfl) ?_
  rintro _ _ ⟨⟨rfl, rfl⟩, L3⟩
  refine r_if_eq (tgt := 20) rfl rfl (fun qc4 => ?_) (fun qc4 => ?_)
  · replace hf := xi_pos hf qc4
    refine XS.go (s_aloadn rfl rfl rfl) ?_
    replace hf := xb_some hf
    obtain ⟨b5, qr6, hf⟩ := hf
    refine XS.go (s_getr rfl xf11_36 (LY.lt L3 (by decide)) (LY.k0 L3) (by decide) rfl qr6) ?_
    replace hf := xi_none hf
    obtain ⟨qk7, hf⟩ := hf
    replace hf := xb_some hf
    obtain ⟨b8, qr9, hf⟩ := hf
    refine XS.go (s_getr rfl xf11_116 qk7.1 qk7.2 (by decide) rfl qr9) ?_
    refine XS.go (s_iloadn rfl rfl rfl) ?_
    replace hf := xi_none hf
    obtain ⟨qk10, hf⟩ := hf
    replace hf := xb_some hf
    obtain ⟨r11, e12, hf⟩ := hf
    refine r_callv rfl xvX4_at xm11_134 (kf_g_at (d := d) L3 e12) qk10.1 qk10.2 (by decide) rfl rfl (dl0 (by decide)) (by decide) (Nat.le_of_ble_eq_true rfl) ?_
    rintro _ _ ⟨⟨rfl, rfl⟩, L13⟩
    refine r_ifnonnull (tgt := 45) rfl rfl (fun qn14 => ?_) (fun b15 qn14 => ?_)
    · replace hf := xo_none hf qn14
      try rw [qn14]
      replace hf := xi_none hf
      obtain ⟨qk16, hf⟩ := hf
      cases hf
      exact XR.here (Or.inr ⟨3, _, rfl, rfl, ⟨276, 278, 280, 23, _, rfl, xthr3, ⟨⟨rfl, rfl, rfl⟩, Or.inr ⟨rfl, rfl, rfl⟩⟩, qk16⟩, rfl, LY.new L13 qk16⟩)
    · replace hf := xo_some hf qn14
      try rw [qn14]
      refine XS.go (s_aloadn rfl rfl rfl) ?_
      refine XS.go (s_getr rfl xf11_46 (LY.lt L13 (by decide)) (LY.k0 L13) (by decide) rfl (LY.r0_6 L13)) ?_
      refine XS.go (s_iloadn rfl rfl rfl) ?_
      replace hf := xb_some hf
      obtain ⟨r17, e18, hf⟩ := hf
      refine r_callv rfl xvX0_open xm11_281 (kf_u_open (d := d) L13 e18) (LY.lt L13 (by decide)) (LY.k1244 L13) (by decide) rfl rfl (dl0 (by decide)) (by decide) (Nat.le_of_ble_eq_true rfl) ?_
      rintro _ _ ⟨⟨rfl, rfl⟩, L19⟩
      cases hf
      exact XR.retv rfl rfl (fun hret => Or.inl ⟨_, hret, ⟨rfl, ⟨_, rfl, rfl⟩⟩, L19⟩)
  · replace hf := xi_neg hf qc4
    replace hf := xi_none hf
    obtain ⟨qk20, hf⟩ := hf
    cases hf
    exact XR.here (Or.inr ⟨1, _, rfl, rfl, ⟨216, 218, 220, 19, _, rfl, xthr1, ⟨⟨rfl, rfl, rfl⟩, Or.inl ⟨rfl, rfl, rfl⟩⟩, qk20⟩, rfl, LY.new L3 qk20⟩)
def f_t_suitsUnion (a0 : Nat) (h : XH) : Option (Int32 × XH) := (Option.bind (f_w_at 5 0 h) fun r1 => (if (lg_cmp r1.1 (1 : Int64)) < 0 then (some (0, r1.2)) else (if a0 < hz r1.2 ∧ hk r1.2 a0 = 2 then (if (lg_cmp r1.1 (Int32.toInt64 (hi r1.2 a0 3))) ≤ 0 then (Option.bind (f_d_fieldAt a0 ((Int64.toInt32 r1.1) - 1) r1.2) fun r7 => (Option.elim (r7.1) (some (0, r7.2)) fun b11 => (Option.bind (f_w_at 5 1 r7.2) fun r12 => (if b11 < hz r12.2 ∧ hk r12.2 b11 = 3 then (Option.bind (f_u_isThing r12.1 3 (hi r12.2 b11 4) (-1) r12.2) fun r16 => (if r16.1 = 0 then (some (0, r16.2)) else (some (1, r16.2)))) else none)))) else (some (0, r1.2))) else none)))
set_option maxRecDepth 20000 in
theorem kf_t_suitsUnion {l : Launch} {G : XG} {d : Nat} {a0 : Nat} {h : XH} {r : Int32 × XH} (L0 : LY h) (hf : f_t_suitsUnion a0 h = some r) : XC l G xEX11_suitsUnion (d + 1) [.ref 0, .ref a0] h (fun v h2 => (h2 = r.2 ∧ v = some (.int r.1)) ∧ LY r.2) := by
  refine XC.virt xvX11_suitsUnion (Nat.le_of_ble_eq_true rfl) ?_
  unfold f_t_suitsUnion at hf
  refine XR.norm (L3 := [some (.ref 0), some (.ref a0), none, none, none]) rfl ?_
  refine XS.go (s_aloadn rfl rfl rfl) ?_
  refine XS.go (s_getr rfl xf11_22 (LY.lt L0 (by decide)) (LY.k0 L0) (by decide) rfl (LY.r0_2 L0)) ?_
  refine XS.go (s_iconst (v := 0) rfl rfl) ?_
  replace hf := xb_some hf
  obtain ⟨r1, e2, hf⟩ := hf
  refine r_callv rfl xvX10_at xm11_261 (kf_w_at (d := d) L0 e2) (LY.lt L0 (by decide)) (LY.k5 L0) (by decide) rfl rfl (dl0 (by decide)) (by decide) (Nat.le_of_ble_eq_true rfl) ?_
  rintro _ _ ⟨⟨rfl, rfl⟩, L3⟩
  refine XS.go (XS.lcl (L3 := [some (.ref 0), some (.ref a0), some (.long r1.1), none, none]) (s_lstoren rfl rfl (Nat.le_of_ble_eq_true rfl)) rfl) ?_
  refine XS.go (s_aloadn rfl rfl rfl) ?_
  refine XS.go (s_ifnull_r rfl) ?_
  refine XS.go (s_lloadn rfl rfl rfl) ?_
  refine XS.go (s_lconst (v := 1) rfl rfl) ?_
  refine XS.go (s_lcmp rfl) ?_
  refine r_if_lt (tgt := 29) rfl rfl (fun qc4 => ?_) (fun qc4 => ?_)
  · replace hf := xi_pos hf qc4
    refine XS.go (s_iconst (v := 0) rfl rfl) ?_
    cases hf
    exact XR.retz rfl rfl (by decide) (fun hret => ⟨_, hret, ⟨rfl, rfl⟩, L3⟩)
  · replace hf := xi_neg hf qc4
    refine XS.go (s_lloadn rfl rfl rfl) ?_
    refine XS.go (s_aloadn rfl rfl rfl) ?_
    replace hf := xi_none hf
    obtain ⟨qk5, hf⟩ := hf
    refine XS.go (s_getie rfl xf11_149 qk5.1 qk5.2 (by decide) rfl rfl) ?_
    refine XS.go (s_i2l rfl) ?_
    refine XS.go (s_lcmp rfl) ?_
    refine r_if_le (tgt := 31) rfl rfl (fun qc6 => ?_) (fun qc6 => ?_)
    · replace hf := xi_pos hf qc6
      refine XS.go (s_aloadn rfl rfl rfl) ?_
      refine XS.go (s_lloadn rfl rfl rfl) ?_
      refine XS.go (s_l2i rfl) ?_
      refine XS.go (s_iconst (v := 1) rfl rfl) ?_
      refine XS.go (s_isub rfl) ?_
      replace hf := xb_some hf
      obtain ⟨r7, e8, hf⟩ := hf
      refine r_callv rfl xvX2_fieldAt xm11_189 (kf_d_fieldAt (d := d) L3 e8) qk5.1 qk5.2 (by decide) rfl rfl (dl0 (by decide)) (by decide) (Nat.le_of_ble_eq_true rfl) ?_
      rintro _ _ ⟨⟨rfl, rfl⟩, L9⟩
      refine XS.go (XS.lcl (L3 := [some (.ref 0), some (.ref a0), some (.long r1.1), none, some (va_rf r7.1)]) (s_astoreO rfl (Nat.le_of_ble_eq_true rfl)) rfl) ?_
      refine XS.go (s_aloadO rfl rfl) ?_
      refine r_ifnull (tgt := 75) rfl rfl (fun qn10 => ?_) (fun b11 qn10 => ?_)
      · replace hf := xo_none hf qn10
        try rw [qn10]
        refine XS.go (s_iconst (v := 0) rfl rfl) ?_
        cases hf
        exact XR.retz rfl rfl (by decide) (fun hret => ⟨_, hret, ⟨rfl, rfl⟩, L9⟩)
      · replace hf := xo_some hf qn10
        try rw [qn10]
        refine XS.go (s_aloadn rfl rfl rfl) ?_
        refine XS.go (s_getr rfl xf11_46 (LY.lt L9 (by decide)) (LY.k0 L9) (by decide) rfl (LY.r0_6 L9)) ?_
        refine XS.go (s_aloadn rfl rfl rfl) ?_
        refine XS.go (s_getr rfl xf11_22 (LY.lt L9 (by decide)) (LY.k0 L9) (by decide) rfl (LY.r0_2 L9)) ?_
        refine XS.go (s_iconst (v := 1) rfl rfl) ?_
        replace hf := xb_some hf
        obtain ⟨r12, e13, hf⟩ := hf
        refine r_callv rfl xvX10_at xm11_261 (kf_w_at (d := d) L9 e13) (LY.lt L9 (by decide)) (LY.k5 L9) (by decide) rfl rfl (dl0 (by decide)) (by decide) (Nat.le_of_ble_eq_true rfl) ?_
        rintro _ _ ⟨⟨rfl, rfl⟩, L14⟩
        refine XS.go (s_iconst (v := 3) rfl rfl) ?_
        refine XS.go (s_aload rfl rfl) ?_
        replace hf := xi_none hf
        obtain ⟨qk15, hf⟩ := hf
        refine XS.go (s_getie rfl xf11_176 qk15.1 qk15.2 (by decide) rfl rfl) ?_
        refine XS.go (s_iconst (v := (-1)) rfl rfl) ?_
        replace hf := xb_some hf
        obtain ⟨r16, e17, hf⟩ := hf
        refine r_callv rfl xvX0_isThing xm11_268 (kf_u_isThing (d := d) L14 e17) (LY.lt L14 (by decide)) (LY.k1244 L14) (by decide) rfl rfl (dl0 (by decide)) (by decide) (Nat.le_of_ble_eq_true rfl) ?_
        rintro _ _ ⟨⟨rfl, rfl⟩, L18⟩
        refine r_if_eq (tgt := 75) rfl rfl (fun qc19 => ?_) (fun qc19 => ?_)
        · replace hf := xi_pos hf qc19
          refine XS.go (s_iconst (v := 0) rfl rfl) ?_
          cases hf
          exact XR.retz rfl rfl (by decide) (fun hret => ⟨_, hret, ⟨rfl, rfl⟩, L18⟩)
        · replace hf := xi_neg hf qc19
          refine XS.go (s_iconst (v := 1) rfl rfl) ?_
          refine XS.go (s_goto (tgt := 76) rfl rfl) ?_
          cases hf
          exact XR.retz rfl rfl (by decide) (fun hret => ⟨_, hret, ⟨rfl, rfl⟩, L18⟩)
    · replace hf := xi_neg hf qc6
      refine XS.go (s_iconst (v := 0) rfl rfl) ?_
      cases hf
      exact XR.retz rfl rfl (by decide) (fun hret => ⟨_, hret, ⟨rfl, rfl⟩, L3⟩)
def b_t_suits_150 (x1 : Nat) (x2 : Int32) (h : XH) : Option (Int32 × XH) := (if ¬ x2 = 1 then (some (0, h)) else (Option.bind (f_w_at 5 0 h) fun r2 => (if x1 < hz r2.2 ∧ hk r2.2 x1 = 3 then (Option.bind (f_u_isThing r2.1 (hi r2.2 x1 3) (hi r2.2 x1 4) (hi r2.2 x1 5) r2.2) fun r6 => (if r6.1 = 0 then (some (0, r6.2)) else (some (1, r6.2)))) else none)))
set_option maxRecDepth 20000 in
theorem kb_t_suits_150 {l : Launch} {G : XG} {d : Nat} {x1 : Nat} {x2 : Int32} {h : XH} {r : Int32 × XH} (L0 : LY h) (hf : b_t_suits_150 x1 x2 h = some r) : XR l G xEX11_suits (d + 3) (150, [some (.ref 0), some (.ref x1), some (.int x2)], [], h) (fun C => ∃ v, xRet xEX11_suits C v ∧ (C.2.2.2 = r.2 ∧ v = some (.int r.1)) ∧ LY r.2) := by
  unfold b_t_suits_150 at hf
  refine XS.go (s_iloadn rfl rfl rfl) ?_
  refine XS.go (s_iconst (v := 1) rfl rfl) ?_
  refine r_icmp_ne (tgt := 189) rfl rfl (fun qc1 => ?_) (fun qc1 => ?_)
  · replace hf := xi_pos hf qc1
    refine XS.go (s_iconst (v := 0) rfl rfl) ?_
    cases hf
    exact XR.retz rfl rfl (by decide) (fun hret => ⟨_, hret, ⟨rfl, rfl⟩, L0⟩)
  · replace hf := xi_neg hf qc1
    refine XS.go (s_aloadn rfl rfl rfl) ?_
    refine XS.go (s_getr rfl xf11_46 (LY.lt L0 (by decide)) (LY.k0 L0) (by decide) rfl (LY.r0_6 L0)) ?_
    refine XS.go (s_aloadn rfl rfl rfl) ?_
    refine XS.go (s_getr rfl xf11_22 (LY.lt L0 (by decide)) (LY.k0 L0) (by decide) rfl (LY.r0_2 L0)) ?_
    refine XS.go (s_iconst (v := 0) rfl rfl) ?_
    replace hf := xb_some hf
    obtain ⟨r2, e3, hf⟩ := hf
    refine r_callv rfl xvX10_at xm11_261 (kf_w_at (d := d) L0 e3) (LY.lt L0 (by decide)) (LY.k5 L0) (by decide) rfl rfl (dl0 (by decide)) (by decide) (Nat.le_of_ble_eq_true rfl) ?_
    rintro _ _ ⟨⟨rfl, rfl⟩, L4⟩
    refine XS.go (s_aloadn rfl rfl rfl) ?_
    replace hf := xi_none hf
    obtain ⟨qk5, hf⟩ := hf
    refine XS.go (s_getie rfl xf11_171 qk5.1 qk5.2 (by decide) rfl rfl) ?_
    refine XS.go (s_aloadn rfl rfl rfl) ?_
    refine XS.go (s_getie rfl xf11_176 qk5.1 qk5.2 (by decide) rfl rfl) ?_
    refine XS.go (s_aloadn rfl rfl rfl) ?_
    refine XS.go (s_getie rfl xf11_179 qk5.1 qk5.2 (by decide) rfl rfl) ?_
    replace hf := xb_some hf
    obtain ⟨r6, e7, hf⟩ := hf
    refine r_callv rfl xvX0_isThing xm11_268 (kf_u_isThing (d := d) L4 e7) (LY.lt L4 (by decide)) (LY.k1244 L4) (by decide) rfl rfl (dl0 (by decide)) (by decide) (Nat.le_of_ble_eq_true rfl) ?_
    rintro _ _ ⟨⟨rfl, rfl⟩, L8⟩
    refine r_if_eq (tgt := 189) rfl rfl (fun qc9 => ?_) (fun qc9 => ?_)
    · replace hf := xi_pos hf qc9
      refine XS.go (s_iconst (v := 0) rfl rfl) ?_
      cases hf
      exact XR.retz rfl rfl (by decide) (fun hret => ⟨_, hret, ⟨rfl, rfl⟩, L8⟩)
    · replace hf := xi_neg hf qc9
      refine XS.go (s_iconst (v := 1) rfl rfl) ?_
      refine XS.go (s_goto (tgt := 190) rfl rfl) ?_
      cases hf
      exact XR.retz rfl rfl (by decide) (fun hret => ⟨_, hret, ⟨rfl, rfl⟩, L8⟩)
def f_t_suits (a0 : Nat) (a1 : Int32) (h : XH) : Option (Int32 × XH) := (if a0 < hz h ∧ hk h a0 = 3 then (if (hi h a0 3) = 0 then (if ¬ a1 = 1 then (some (0, h)) else (Option.bind (f_w_at 5 0 h) fun r13 => (Option.bind (f_t_isValue (hi h a0 4) r13.1 r13.2) fun r16 => (if r16.1 = 0 then (some (0, r16.2)) else (some (1, r16.2)))))) else (if (hi h a0 3) = 1 then (b_t_suits_150 a0 a1 h) else (if (hi h a0 3) = 2 then (Option.bind (hr h 0 4) fun b20 => (if b20 < hz h ∧ hk h b20 = 9 then (Option.bind (hr h b20 0) fun b23 => (if b23 < hz h ∧ hk h b23 = 4 then (Option.bind (f_g_at b23 (hi h a0 4) h) fun r26 => (Option.bind (f_t_leafCount r26.1 r26.2) fun r29 => (if ¬ a1 = r29.1 then (some (0, r29.2)) else (Option.bind (hr r29.2 0 4) fun b33 => (if b33 < hz r29.2 ∧ hk r29.2 b33 = 9 then (Option.bind (hr r29.2 b33 0) fun b36 => (if a0 < hz r29.2 ∧ hk r29.2 a0 = 3 then (if b36 < hz r29.2 ∧ hk r29.2 b36 = 4 then (Option.bind (f_g_at b36 (hi r29.2 a0 4) r29.2) fun r40 => (Option.bind (r40.1) fun b43 => (Option.bind (f_t_areLeaves b43 a1 r40.2) fun r45 => (if r45.1 = 0 then (some (0, r45.2)) else (some (1, r45.2)))))) else none) else none)) else none))))) else none)) else none)) else (if (hi h a0 3) = 3 then (b_t_suits_150 a0 a1 h) else (if (hi h a0 3) = 4 then (if ¬ a1 = 2 then (some (0, h)) else (Option.bind (hr h 0 4) fun b50 => (if b50 < hz h ∧ hk h b50 = 9 then (Option.bind (hr h b50 2) fun b53 => (if b53 < hz h ∧ hk h b53 = 4 then (Option.bind (f_g_at b53 (hi h a0 4) h) fun r56 => (Option.bind (r56.1) fun b59 => (Option.bind (f_t_suitsUnion b59 r56.2) fun r61 => (if r61.1 = 0 then (some (0, r61.2)) else (some (1, r61.2)))))) else none)) else none))) else (b_t_suits_150 a0 a1 h)))))) else none)
set_option maxRecDepth 20000 in
theorem kf_t_suits {l : Launch} {G : XG} {d : Nat} {a0 : Nat} {a1 : Int32} {h : XH} {r : Int32 × XH} (L0 : LY h) (hf : f_t_suits a0 a1 h = some r) : XC l G xEX11_suits (d + 3) [.ref 0, .ref a0, .int a1] h (fun v h2 => (h2 = r.2 ∧ v = some (.int r.1)) ∧ LY r.2) := by
  refine XC.virt xvX11_suits (Nat.le_of_ble_eq_true rfl) ?_
  unfold f_t_suits at hf
  refine XR.norm (L3 := [some (.ref 0), some (.ref a0), some (.int a1)]) rfl ?_
  refine XS.go (s_aloadn rfl rfl rfl) ?_
  replace hf := xi_none hf
  obtain ⟨qk10, hf⟩ := hf
  refine XS.go (s_getie rfl xf11_171 qk10.1 qk10.2 (by decide) rfl rfl) ?_
  by_cases qs11_0 : (hi h a0 3) = 0
  · replace hf := xi_pos hf qs11_0
    refine XS.go (s_tswI (tgt := 40) rfl (by rw [qs11_0]; decide) (by rw [qs11_0]; decide) (by rw [qs11_0]; rfl) rfl) ?_
    refine XS.go (s_iloadn rfl rfl rfl) ?_
    refine XS.go (s_iconst (v := 1) rfl rfl) ?_
    refine r_icmp_ne (tgt := 67) rfl rfl (fun qc12 => ?_) (fun qc12 => ?_)
    · replace hf := xi_pos hf qc12
      refine XS.go (s_iconst (v := 0) rfl rfl) ?_
      cases hf
      exact XR.retz rfl rfl (by decide) (fun hret => ⟨_, hret, ⟨rfl, rfl⟩, L0⟩)
    · replace hf := xi_neg hf qc12
      refine XS.go (s_aloadn rfl rfl rfl) ?_
      refine XS.go (s_getie rfl xf11_176 qk10.1 qk10.2 (by decide) rfl rfl) ?_
      refine XS.go (s_aloadn rfl rfl rfl) ?_
      refine XS.go (s_getr rfl xf11_22 (LY.lt L0 (by decide)) (LY.k0 L0) (by decide) rfl (LY.r0_2 L0)) ?_
      refine XS.go (s_iconst (v := 0) rfl rfl) ?_
      replace hf := xb_some hf
      obtain ⟨r13, e14, hf⟩ := hf
      refine r_callv rfl xvX10_at xm11_261 (kf_w_at (d := d) L0 e14) (LY.lt L0 (by decide)) (LY.k5 L0) (by decide) rfl rfl (dl0 (by decide)) (by decide) (Nat.le_of_ble_eq_true rfl) ?_
      rintro _ _ ⟨⟨rfl, rfl⟩, L15⟩
      replace hf := xb_some hf
      obtain ⟨r16, e17, hf⟩ := hf
      refine r_calls rfl xsX11_isValue xm11_264 (kf_t_isValue (d := d) L15 e17) rfl rfl (dl (by decide)) (by decide) (Nat.le_of_ble_eq_true rfl) ?_
      rintro _ _ ⟨⟨rfl, rfl⟩, L18⟩
      refine r_if_eq (tgt := 67) rfl rfl (fun qc19 => ?_) (fun qc19 => ?_)
      · replace hf := xi_pos hf qc19
        refine XS.go (s_iconst (v := 0) rfl rfl) ?_
        cases hf
        exact XR.retz rfl rfl (by decide) (fun hret => ⟨_, hret, ⟨rfl, rfl⟩, L18⟩)
      · replace hf := xi_neg hf qc19
        refine XS.go (s_iconst (v := 1) rfl rfl) ?_
        refine XS.go (s_goto (tgt := 68) rfl rfl) ?_
        cases hf
        exact XR.retz rfl rfl (by decide) (fun hret => ⟨_, hret, ⟨rfl, rfl⟩, L18⟩)
  replace hf := xi_neg hf qs11_0
  by_cases qs11_1 : (hi h a0 3) = 1
  · replace hf := xi_pos hf qs11_1
    refine XS.go (s_tswI (tgt := 150) rfl (by rw [qs11_1]; decide) (by rw [qs11_1]; decide) (by rw [qs11_1]; rfl) rfl) ?_
    exact XR.forget (L2 := [some (.ref 0), some (.ref a0), some (.int a1)]) ⟨rfl, ⟨rfl, ⟨rfl, trivial⟩⟩⟩ (kb_t_suits_150 L0 hf)
  replace hf := xi_neg hf qs11_1
  by_cases qs11_2 : (hi h a0 3) = 2
  · replace hf := xi_pos hf qs11_2
    refine XS.go (s_tswI (tgt := 69) rfl (by rw [qs11_2]; decide) (by rw [qs11_2]; decide) (by rw [qs11_2]; rfl) rfl) ?_
    refine XS.go (s_iloadn rfl rfl rfl) ?_
    refine XS.go (s_aloadn rfl rfl rfl) ?_
    replace hf := xb_some hf
    obtain ⟨b20, qr21, hf⟩ := hf
    refine XS.go (s_getr rfl xf11_36 (LY.lt L0 (by decide)) (LY.k0 L0) (by decide) rfl qr21) ?_
    replace hf := xi_none hf
    obtain ⟨qk22, hf⟩ := hf
    replace hf := xb_some hf
    obtain ⟨b23, qr24, hf⟩ := hf
    refine XS.go (s_getr rfl xf11_125 qk22.1 qk22.2 (by decide) rfl qr24) ?_
    refine XS.go (s_aloadn rfl rfl rfl) ?_
    refine XS.go (s_getie rfl xf11_176 qk10.1 qk10.2 (by decide) rfl rfl) ?_
    replace hf := xi_none hf
    obtain ⟨qk25, hf⟩ := hf
    replace hf := xb_some hf
    obtain ⟨r26, e27, hf⟩ := hf
    refine r_callv rfl xvX4_at xm11_134 (kf_g_at (d := d) L0 e27) qk25.1 qk25.2 (by decide) rfl rfl (dl0 (by decide)) (by decide) (Nat.le_of_ble_eq_true rfl) ?_
    rintro _ _ ⟨⟨rfl, rfl⟩, L28⟩
    replace hf := xb_some hf
    obtain ⟨r29, e30, hf⟩ := hf
    refine r_calls rfl xsX11_leafCount xm11_252 (kf_t_leafCount (d := d) L28 e30) rfl rfl (dl0 (by decide)) (by decide) (Nat.le_of_ble_eq_true rfl) ?_
    rintro _ _ ⟨⟨rfl, rfl⟩, L31⟩
    refine r_icmp_ne (tgt := 116) rfl rfl (fun qc32 => ?_) (fun qc32 => ?_)
    · replace hf := xi_pos hf qc32
      refine XS.go (s_iconst (v := 0) rfl rfl) ?_
      cases hf
      exact XR.retz rfl rfl (by decide) (fun hret => ⟨_, hret, ⟨rfl, rfl⟩, L31⟩)
    · replace hf := xi_neg hf qc32
      refine XS.go (s_aloadn rfl rfl rfl) ?_
      refine XS.go (s_aloadn rfl rfl rfl) ?_
      replace hf := xb_some hf
      obtain ⟨b33, qr34, hf⟩ := hf
      refine XS.go (s_getr rfl xf11_36 (LY.lt L31 (by decide)) (LY.k0 L31) (by decide) rfl qr34) ?_
      replace hf := xi_none hf
      obtain ⟨qk35, hf⟩ := hf
      replace hf := xb_some hf
      obtain ⟨b36, qr37, hf⟩ := hf
      refine XS.go (s_getr rfl xf11_125 qk35.1 qk35.2 (by decide) rfl qr37) ?_
      refine XS.go (s_aloadn rfl rfl rfl) ?_
      replace hf := xi_none hf
      obtain ⟨qk38, hf⟩ := hf
      refine XS.go (s_getie rfl xf11_176 qk38.1 qk38.2 (by decide) rfl rfl) ?_
      replace hf := xi_none hf
      obtain ⟨qk39, hf⟩ := hf
      replace hf := xb_some hf
      obtain ⟨r40, e41, hf⟩ := hf
      refine r_callv rfl xvX4_at xm11_134 (kf_g_at (d := d) L31 e41) qk39.1 qk39.2 (by decide) rfl rfl (dl0 (by decide)) (by decide) (Nat.le_of_ble_eq_true rfl) ?_
      rintro _ _ ⟨⟨rfl, rfl⟩, L42⟩
      refine XS.go (s_iloadn rfl rfl rfl) ?_
      replace hf := xb_some hf
      obtain ⟨b43, qo44, hf⟩ := hf
      try rw [qo44]
      replace hf := xb_some hf
      obtain ⟨r45, e46, hf⟩ := hf
      refine r_callv rfl xvX11_areLeaves xm11_257 (kf_t_areLeaves (d := d) L42 e46) (LY.lt L42 (by decide)) (LY.k0 L42) (by decide) rfl rfl (dl (by decide)) (by decide) (Nat.le_of_ble_eq_true rfl) ?_
      rintro _ _ ⟨⟨rfl, rfl⟩, L47⟩
      refine r_if_eq (tgt := 116) rfl rfl (fun qc48 => ?_) (fun qc48 => ?_)
      · replace hf := xi_pos hf qc48
        refine XS.go (s_iconst (v := 0) rfl rfl) ?_
        cases hf
        exact XR.retz rfl rfl (by decide) (fun hret => ⟨_, hret, ⟨rfl, rfl⟩, L47⟩)
      · replace hf := xi_neg hf qc48
        refine XS.go (s_iconst (v := 1) rfl rfl) ?_
        refine XS.go (s_goto (tgt := 117) rfl rfl) ?_
        cases hf
        exact XR.retz rfl rfl (by decide) (fun hret => ⟨_, hret, ⟨rfl, rfl⟩, L47⟩)
  replace hf := xi_neg hf qs11_2
  by_cases qs11_3 : (hi h a0 3) = 3
  · replace hf := xi_pos hf qs11_3
    refine XS.go (s_tswI (tgt := 150) rfl (by rw [qs11_3]; decide) (by rw [qs11_3]; decide) (by rw [qs11_3]; rfl) rfl) ?_
    exact XR.forget (L2 := [some (.ref 0), some (.ref a0), some (.int a1)]) ⟨rfl, ⟨rfl, ⟨rfl, trivial⟩⟩⟩ (kb_t_suits_150 L0 hf)
  replace hf := xi_neg hf qs11_3
  by_cases qs11_4 : (hi h a0 3) = 4
  · replace hf := xi_pos hf qs11_4
    refine XS.go (s_tswI (tgt := 118) rfl (by rw [qs11_4]; decide) (by rw [qs11_4]; decide) (by rw [qs11_4]; rfl) rfl) ?_
    refine XS.go (s_iloadn rfl rfl rfl) ?_
    refine XS.go (s_iconst (v := 2) rfl rfl) ?_
    refine r_icmp_ne (tgt := 148) rfl rfl (fun qc49 => ?_) (fun qc49 => ?_)
    · replace hf := xi_pos hf qc49
      refine XS.go (s_iconst (v := 0) rfl rfl) ?_
      cases hf
      exact XR.retz rfl rfl (by decide) (fun hret => ⟨_, hret, ⟨rfl, rfl⟩, L0⟩)
    · replace hf := xi_neg hf qc49
      refine XS.go (s_aloadn rfl rfl rfl) ?_
      refine XS.go (s_aloadn rfl rfl rfl) ?_
      replace hf := xb_some hf
      obtain ⟨b50, qr51, hf⟩ := hf
      refine XS.go (s_getr rfl xf11_36 (LY.lt L0 (by decide)) (LY.k0 L0) (by decide) rfl qr51) ?_
      replace hf := xi_none hf
      obtain ⟨qk52, hf⟩ := hf
      replace hf := xb_some hf
      obtain ⟨b53, qr54, hf⟩ := hf
      refine XS.go (s_getr rfl xf11_128 qk52.1 qk52.2 (by decide) rfl qr54) ?_
      refine XS.go (s_aloadn rfl rfl rfl) ?_
      refine XS.go (s_getie rfl xf11_176 qk10.1 qk10.2 (by decide) rfl rfl) ?_
      replace hf := xi_none hf
      obtain ⟨qk55, hf⟩ := hf
      replace hf := xb_some hf
      obtain ⟨r56, e57, hf⟩ := hf
      refine r_callv rfl xvX4_at xm11_134 (kf_g_at (d := d) L0 e57) qk55.1 qk55.2 (by decide) rfl rfl (dl0 (by decide)) (by decide) (Nat.le_of_ble_eq_true rfl) ?_
      rintro _ _ ⟨⟨rfl, rfl⟩, L58⟩
      replace hf := xb_some hf
      obtain ⟨b59, qo60, hf⟩ := hf
      try rw [qo60]
      replace hf := xb_some hf
      obtain ⟨r61, e62, hf⟩ := hf
      refine r_callv rfl xvX11_suitsUnion xm11_309 (kf_t_suitsUnion (d := d) L58 e62) (LY.lt L58 (by decide)) (LY.k0 L58) (by decide) rfl rfl (dl (by decide)) (by decide) (Nat.le_of_ble_eq_true rfl) ?_
      rintro _ _ ⟨⟨rfl, rfl⟩, L63⟩
      refine r_if_eq (tgt := 148) rfl rfl (fun qc64 => ?_) (fun qc64 => ?_)
      · replace hf := xi_pos hf qc64
        refine XS.go (s_iconst (v := 0) rfl rfl) ?_
        cases hf
        exact XR.retz rfl rfl (by decide) (fun hret => ⟨_, hret, ⟨rfl, rfl⟩, L63⟩)
      · replace hf := xi_neg hf qc64
        refine XS.go (s_iconst (v := 1) rfl rfl) ?_
        refine XS.go (s_goto (tgt := 149) rfl rfl) ?_
        cases hf
        exact XR.retz rfl rfl (by decide) (fun hret => ⟨_, hret, ⟨rfl, rfl⟩, L63⟩)
  replace hf := xi_neg hf qs11_4
  have qs11_o : ((hi h a0 3)).toInt < 0 ∨ 4 < ((hi h a0 3)).toInt := by
    refine tsw_out 0 4 (by decide) ?_
    intro k h1 h2
    have z : k = 0 ∨ k = 1 ∨ k = 2 ∨ k = 3 ∨ k = 4 := by omega
    rcases z with rfl | rfl | rfl | rfl | rfl
    · exact qs11_0
    · exact qs11_1
    · exact qs11_2
    · exact qs11_3
    · exact qs11_4
  refine XS.go (s_tswO (tgt := 150) rfl qs11_o rfl) ?_
  exact XR.forget (L2 := [some (.ref 0), some (.ref a0), some (.int a1)]) ⟨rfl, ⟨rfl, ⟨rfl, trivial⟩⟩⟩ (kb_t_suits_150 L0 hf)
def b_t_set_130 (x1 : Int32) (x3 : Option Nat) (h : XH) : Option (Sum Int32 Nat × XH) := (Option.bind (hr h 0 4) fun b1 => (Option.bind (x3) fun b3 => (Option.bind (f_u_putField b1 b3 5 h) fun r5 => (if ¬ r5.1 = 0 then (Option.bind (f_u_markSet x1 r5.2) fun r9 => (some (Sum.inl 1, r9.2))) else (if hz r5.2 < 1000000 then (some (Sum.inr 2, hthr r5.2)) else none)))))
set_option maxRecDepth 20000 in
theorem kb_t_set_130 {l : Launch} {G : XG} {d : Nat} {x1 : Int32} {x3 : Option Nat} {h : XH} {r : Sum Int32 Nat × XH} (L0 : LY h) (hf : b_t_set_130 x1 x3 h = some r) : XR l G xEX11_set (d + 6) (130, [some (.ref 0), some (.int x1), none, some (va_rf x3)], [], h) (fun C => (∃ v, xRet xEX11_set C v ∧ (C.2.2.2 = r.2 ∧ ∃ x, r.1 = Sum.inl x ∧ v = some (.int x)) ∧ LY r.2) ∨ ∃ k E, r.1 = Sum.inr k ∧ xXs[k]? = some E ∧ XThrown xEX11_set C E ∧ hthr C.2.2.2 = r.2 ∧ LY r.2) := by
  unfold b_t_set_130 at hf
  refine XS.go (s_aloadn rfl rfl rfl) ?_
  refine XS.go (s_getr rfl xf11_46 (LY.lt L0 (by decide)) (LY.k0 L0) (by decide) rfl (LY.r0_6 L0)) ?_
  refine XS.go (s_aloadn rfl rfl rfl) ?_
  replace hf := xb_some hf
  obtain ⟨b1, qr2, hf⟩ := hf
  refine XS.go (s_getr rfl xf11_36 (LY.lt L0 (by decide)) (LY.k0 L0) (by decide) rfl qr2) ?_
  refine XS.go (s_aloadnO rfl rfl rfl) ?_
  refine XS.go (s_aloadn rfl rfl rfl) ?_
  refine XS.go (s_getr rfl xf11_22 (LY.lt L0 (by decide)) (LY.k0 L0) (by decide) rfl (LY.r0_2 L0)) ?_
  replace hf := xb_some hf
  obtain ⟨b3, qo4, hf⟩ := hf
  try rw [qo4]
  replace hf := xb_some hf
  obtain ⟨r5, e6, hf⟩ := hf
  refine r_callv rfl xvX0_putField xm11_303 (kf_u_putField (d := d) L0 e6) (LY.lt L0 (by decide)) (LY.k1244 L0) (by decide) rfl rfl (dl (by decide)) (by decide) (Nat.le_of_ble_eq_true rfl) ?_
  rintro _ _ ⟨⟨rfl, rfl⟩, L7⟩
  refine r_if_ne (tgt := 160) rfl rfl (fun qc8 => ?_) (fun qc8 => ?_)
  · replace hf := xi_pos hf qc8
    refine XS.go (s_aloadn rfl rfl rfl) ?_
    refine XS.go (s_getr rfl xf11_46 (LY.lt L7 (by decide)) (LY.k0 L7) (by decide) rfl (LY.r0_6 L7)) ?_
    refine XS.go (s_iloadn rfl rfl rfl) ?_
    replace hf := xb_some hf
    obtain ⟨r9, e10, hf⟩ := hf
    refine r_callv rfl xvX0_markSet xm11_300 (kf_u_markSet (d := d) L7 e10) (LY.lt L7 (by decide)) (LY.k1244 L7) (by decide) rfl rfl (dl0 (by decide)) (by decide) (Nat.le_of_ble_eq_true rfl) ?_
    rintro _ _ ⟨⟨rfl, rfl⟩, L11⟩
    refine XS.go (s_iconst (v := 1) rfl rfl) ?_
    cases hf
    exact XR.retz rfl rfl (by decide) (fun hret => Or.inl ⟨_, hret, ⟨rfl, ⟨_, rfl, rfl⟩⟩, L11⟩)
  · replace hf := xi_neg hf qc8
    replace hf := xi_none hf
    obtain ⟨qk12, hf⟩ := hf
    cases hf
    exact XR.here (Or.inr ⟨2, _, rfl, rfl, ⟨225, 307, 229, 27, _, rfl, xthr2, ⟨⟨rfl, rfl, rfl⟩, Or.inr ⟨rfl, rfl, rfl⟩⟩, qk12⟩, rfl, LY.new L7 qk12⟩)
def b_t_set_86 (h : XH) : Option (Sum Int32 Nat × XH) := (if hz h < 1000000 then (some (Sum.inr 0, hthr h)) else none)
set_option maxRecDepth 20000 in
theorem kb_t_set_86 {l : Launch} {G : XG} {d : Nat} {h : XH} {r : Sum Int32 Nat × XH} (L0 : LY h) (hf : b_t_set_86 h = some r) : XR l G xEX11_set (d + 6) (86, [none, none, none, none], [], h) (fun C => (∃ v, xRet xEX11_set C v ∧ (C.2.2.2 = r.2 ∧ ∃ x, r.1 = Sum.inl x ∧ v = some (.int x)) ∧ LY r.2) ∨ ∃ k E, r.1 = Sum.inr k ∧ xXs[k]? = some E ∧ XThrown xEX11_set C E ∧ hthr C.2.2.2 = r.2 ∧ LY r.2) := by
  unfold b_t_set_86 at hf
  replace hf := xi_none hf
  obtain ⟨qk13, hf⟩ := hf
  cases hf
  exact XR.here (Or.inr ⟨0, _, rfl, rfl, ⟨103, 298, 107, 26, _, rfl, xthr0, ⟨⟨rfl, rfl, rfl⟩, Or.inr ⟨rfl, rfl, rfl⟩⟩, qk13⟩, rfl, LY.new L0 qk13⟩)
def f_t_set (a0 : Int32) (h : XH) : Option (Sum Int32 Nat × XH) := (Option.bind (f_w_takeAll 5 h) fun r14 => (Option.bind (f_u_isOpen r14.2) fun r17 => (if ¬ r17.1 = 0 then (Option.bind (hr r17.2 0 4) fun b21 => (if b21 < hz r17.2 ∧ hk r17.2 b21 = 9 then (Option.bind (hr r17.2 b21 1) fun b24 => (if b24 < hz r17.2 ∧ hk r17.2 b24 = 4 then (Option.bind (f_g_at b24 (hi r17.2 1244 10) r17.2) fun r27 => (Option.bind (f_t_fieldOf r27.1 a0 r27.2) fun r30 => (Option.elim (r30.1) (if hz r30.2 < 1000000 then (some (Sum.inr 3, hthr r30.2)) else none) fun b34 => (Option.bind (f_u_isSet a0 r30.2) fun r36 => (if ¬ r36.1 = 0 then (b_t_set_86 r36.2) else (Option.bind (f_t_suits b34 r14.1 r36.2) fun r40 => (if ¬ r40.1 = 0 then (if b34 < hz r40.2 ∧ hk r40.2 b34 = 3 then (if ¬ (hi r40.2 b34 3) = 0 then (b_t_set_130 a0 (some b34) r40.2) else (Option.bind (f_w_at 5 0 r40.2) fun r46 => (if b34 < hz r46.2 ∧ hk r46.2 b34 = 3 then (if ¬ (lg_cmp r46.1 (hj r46.2 b34 8)) = 0 then (b_t_set_130 a0 (some b34) r46.2) else (Option.bind (f_u_markSet a0 r46.2) fun r51 => (some (Sum.inl 0, r51.2)))) else none))) else none) else (b_t_set_86 r40.2)))))))) else none)) else none)) else (if hz r17.2 < 1000000 then (some (Sum.inr 1, hthr r17.2)) else none))))
set_option maxRecDepth 20000 in
theorem kf_t_set {l : Launch} {G : XG} {d : Nat} {a0 : Int32} {h : XH} {r : Sum Int32 Nat × XH} (hl : l.stackTraces = false) (L0 : LY h) (hf : f_t_set a0 h = some r) : (∃ x, r.1 = Sum.inl x ∧ XC l G xEX11_set (d + 6) [.ref 0, .int a0] h (fun v h2 => (h2 = r.2 ∧ v = some (.int x)) ∧ LY r.2)) ∨ ∃ k E, r.1 = Sum.inr k ∧ xXs[k]? = some E ∧ XCx l G xEX11_set (d + 6) [.ref 0, .int a0] h E (fun h2 => h2 = r.2 ∧ LY r.2) := by
  refine xe_of (R := Int32) (V := fun x => some (.int x)) hl xvX11_set rfl (Nat.le_of_ble_eq_true rfl) (by omega) ?_
  unfold f_t_set at hf
  refine XR.norm (L3 := [some (.ref 0), some (.int a0), none, none]) rfl ?_
  refine XS.go (s_aloadn rfl rfl rfl) ?_
  refine XS.go (s_getr rfl xf11_22 (LY.lt L0 (by decide)) (LY.k0 L0) (by decide) rfl (LY.r0_2 L0)) ?_
  replace hf := xb_some hf
  obtain ⟨r14, e15, hf⟩ := hf
  refine r_callv rfl xvX10_takeAll xm11_230 (kf_w_takeAll (d := d) L0 e15) (LY.lt L0 (by decide)) (LY.k5 L0) (by decide) rfl rfl (dl0 (by decide)) (by decide) (Nat.le_of_ble_eq_true rfl) ?_
  rintro _ _ ⟨⟨rfl, rfl⟩, L16⟩
  refine XS.go (XS.lcl (L3 := [some (.ref 0), some (.int a0), some (.int r14.1), none]) (s_istoren rfl rfl (Nat.le_of_ble_eq_true rfl)) rfl) ?_
  refine XS.go (s_aloadn rfl rfl rfl) ?_
  refine XS.go (s_getr rfl xf11_46 (LY.lt L16 (by decide)) (LY.k0 L16) (by decide) rfl (LY.r0_6 L16)) ?_
  replace hf := xb_some hf
  obtain ⟨r17, e18, hf⟩ := hf
  refine r_callv rfl xvX0_isOpen xm11_213 (kf_u_isOpen (d := d) L16 e18) (LY.lt L16 (by decide)) (LY.k1244 L16) (by decide) rfl rfl (dl0 (by decide)) (by decide) (Nat.le_of_ble_eq_true rfl) ?_
  rintro _ _ ⟨⟨rfl, rfl⟩, L19⟩
  refine r_if_ne (tgt := 29) rfl rfl (fun qc20 => ?_) (fun qc20 => ?_)
  · replace hf := xi_pos hf qc20
    refine XS.go (s_aloadn rfl rfl rfl) ?_
    replace hf := xb_some hf
    obtain ⟨b21, qr22, hf⟩ := hf
    refine XS.go (s_getr rfl xf11_36 (LY.lt L19 (by decide)) (LY.k0 L19) (by decide) rfl qr22) ?_
    replace hf := xi_none hf
    obtain ⟨qk23, hf⟩ := hf
    replace hf := xb_some hf
    obtain ⟨b24, qr25, hf⟩ := hf
    refine XS.go (s_getr rfl xf11_116 qk23.1 qk23.2 (by decide) rfl qr25) ?_
    refine XS.go (s_aloadn rfl rfl rfl) ?_
    refine XS.go (s_getr rfl xf11_46 (LY.lt L19 (by decide)) (LY.k0 L19) (by decide) rfl (LY.r0_6 L19)) ?_
    refine XS.go (s_getie rfl xf11_286 (LY.lt L19 (by decide)) (LY.k1244 L19) (by decide) rfl rfl) ?_
    replace hf := xi_none hf
    obtain ⟨qk26, hf⟩ := hf
    replace hf := xb_some hf
    obtain ⟨r27, e28, hf⟩ := hf
    refine r_callv rfl xvX4_at xm11_134 (kf_g_at (d := d) L19 e28) qk26.1 qk26.2 (by decide) rfl rfl (dl0 (by decide)) (by decide) (Nat.le_of_ble_eq_true rfl) ?_
    rintro _ _ ⟨⟨rfl, rfl⟩, L29⟩
    refine XS.go (s_iloadn rfl rfl rfl) ?_
    replace hf := xb_some hf
    obtain ⟨r30, e31, hf⟩ := hf
    refine r_calls rfl xsX11_fieldOf xm11_167 (kf_t_fieldOf (d := d) L29 e31) rfl rfl (dl (by decide)) (by decide) (Nat.le_of_ble_eq_true rfl) ?_
    rintro _ _ ⟨⟨rfl, rfl⟩, L32⟩
    refine XS.go (XS.lcl (L3 := [some (.ref 0), some (.int a0), some (.int r14.1), some (va_rf r30.1)]) (s_astorenO rfl rfl (Nat.le_of_ble_eq_true rfl)) rfl) ?_
    refine XS.go (s_aloadnO rfl rfl rfl) ?_
    refine r_ifnonnull (tgt := 66) rfl rfl (fun qn33 => ?_) (fun b34 qn33 => ?_)
    · replace hf := xo_none hf qn33
      try rw [qn33]
      replace hf := xi_none hf
      obtain ⟨qk35, hf⟩ := hf
      cases hf
      exact XR.here (Or.inr ⟨3, _, rfl, rfl, ⟨276, 289, 280, 25, _, rfl, xthr3, ⟨⟨rfl, rfl, rfl⟩, Or.inr ⟨rfl, rfl, rfl⟩⟩, qk35⟩, rfl, LY.new L32 qk35⟩)
    · replace hf := xo_some hf qn33
      try rw [qn33]
      refine XS.go (s_aloadn rfl rfl rfl) ?_
      refine XS.go (s_getr rfl xf11_46 (LY.lt L32 (by decide)) (LY.k0 L32) (by decide) rfl (LY.r0_6 L32)) ?_
      refine XS.go (s_iloadn rfl rfl rfl) ?_
      replace hf := xb_some hf
      obtain ⟨r36, e37, hf⟩ := hf
      refine r_callv rfl xvX0_isSet xm11_291 (kf_u_isSet (d := d) L32 e37) (LY.lt L32 (by decide)) (LY.k1244 L32) (by decide) rfl rfl (dl0 (by decide)) (by decide) (Nat.le_of_ble_eq_true rfl) ?_
      rintro _ _ ⟨⟨rfl, rfl⟩, L38⟩
      refine r_if_ne (tgt := 86) rfl rfl (fun qc39 => ?_) (fun qc39 => ?_)
      · replace hf := xi_pos hf qc39
        exact XR.forget (L2 := [none, none, none, none]) trivial (kb_t_set_86 L38 hf)
      · replace hf := xi_neg hf qc39
        refine XS.go (s_aloadn rfl rfl rfl) ?_
        refine XS.go (s_aloadn rfl rfl rfl) ?_
        refine XS.go (s_iloadn rfl rfl rfl) ?_
        replace hf := xb_some hf
        obtain ⟨r40, e41, hf⟩ := hf
        refine r_callv rfl xvX11_suits xm11_294 (kf_t_suits (d := d) L38 e41) (LY.lt L38 (by decide)) (LY.k0 L38) (by decide) rfl rfl (dl (by decide)) (by decide) (Nat.le_of_ble_eq_true rfl) ?_
        rintro _ _ ⟨⟨rfl, rfl⟩, L42⟩
        refine r_if_ne (tgt := 97) rfl rfl (fun qc43 => ?_) (fun qc43 => ?_)
        · replace hf := xi_pos hf qc43
          refine XS.go (s_aloadn rfl rfl rfl) ?_
          replace hf := xi_none hf
          obtain ⟨qk44, hf⟩ := hf
          refine XS.go (s_getie rfl xf11_171 qk44.1 qk44.2 (by decide) rfl rfl) ?_
          refine r_if_ne (tgt := 130) rfl rfl (fun qc45 => ?_) (fun qc45 => ?_)
          · replace hf := xi_pos hf qc45
            exact XR.forget (L2 := [some (.ref 0), some (.int a0), none, some (.ref b34)]) ⟨rfl, ⟨rfl, ⟨rfl, trivial⟩⟩⟩ (kb_t_set_130 L42 hf)
          · replace hf := xi_neg hf qc45
            refine XS.go (s_aloadn rfl rfl rfl) ?_
            refine XS.go (s_getr rfl xf11_22 (LY.lt L42 (by decide)) (LY.k0 L42) (by decide) rfl (LY.r0_2 L42)) ?_
            refine XS.go (s_iconst (v := 0) rfl rfl) ?_
            replace hf := xb_some hf
            obtain ⟨r46, e47, hf⟩ := hf
            refine r_callv rfl xvX10_at xm11_261 (kf_w_at (d := d) L42 e47) (LY.lt L42 (by decide)) (LY.k5 L42) (by decide) rfl rfl (dl0 (by decide)) (by decide) (Nat.le_of_ble_eq_true rfl) ?_
            rintro _ _ ⟨⟨rfl, rfl⟩, L48⟩
            refine XS.go (s_aloadn rfl rfl rfl) ?_
            replace hf := xi_none hf
            obtain ⟨qk49, hf⟩ := hf
            refine XS.go (s_getje rfl xf11_193 qk49.1 qk49.2 (by decide) rfl rfl) ?_
            refine XS.go (s_lcmp rfl) ?_
            refine r_if_ne (tgt := 130) rfl rfl (fun qc50 => ?_) (fun qc50 => ?_)
            · replace hf := xi_pos hf qc50
              exact XR.forget (L2 := [some (.ref 0), some (.int a0), none, some (.ref b34)]) ⟨rfl, ⟨rfl, ⟨rfl, trivial⟩⟩⟩ (kb_t_set_130 L48 hf)
            · replace hf := xi_neg hf qc50
              refine XS.go (s_aloadn rfl rfl rfl) ?_
              refine XS.go (s_getr rfl xf11_46 (LY.lt L48 (by decide)) (LY.k0 L48) (by decide) rfl (LY.r0_6 L48)) ?_
              refine XS.go (s_iloadn rfl rfl rfl) ?_
              replace hf := xb_some hf
              obtain ⟨r51, e52, hf⟩ := hf
              refine r_callv rfl xvX0_markSet xm11_300 (kf_u_markSet (d := d) L48 e52) (LY.lt L48 (by decide)) (LY.k1244 L48) (by decide) rfl rfl (dl0 (by decide)) (by decide) (Nat.le_of_ble_eq_true rfl) ?_
              rintro _ _ ⟨⟨rfl, rfl⟩, L53⟩
              refine XS.go (s_iconst (v := 0) rfl rfl) ?_
              cases hf
              exact XR.retz rfl rfl (by decide) (fun hret => Or.inl ⟨_, hret, ⟨rfl, ⟨_, rfl, rfl⟩⟩, L53⟩)
        · replace hf := xi_neg hf qc43
          exact XR.forget (L2 := [none, none, none, none]) trivial (kb_t_set_86 L42 hf)
  · replace hf := xi_neg hf qc20
    replace hf := xi_none hf
    obtain ⟨qk54, hf⟩ := hf
    cases hf
    exact XR.here (Or.inr ⟨1, _, rfl, rfl, ⟨216, 284, 220, 24, _, rfl, xthr1, ⟨⟨rfl, rfl, rfl⟩, Or.inr ⟨rfl, rfl, rfl⟩⟩, qk54⟩, rfl, LY.new L19 qk54⟩)
def b_t_ready_37 (h : XH) : Option (Sum Int32 Nat × XH) := (if hz h < 1000000 then (some (Sum.inr 1, hthr h)) else none)
set_option maxRecDepth 20000 in
theorem kb_t_ready_37 {l : Launch} {G : XG} {d : Nat} {h : XH} {r : Sum Int32 Nat × XH} (L0 : LY h) (hf : b_t_ready_37 h = some r) : XR l G xEX11_ready (d + 6) (37, [none, none], [], h) (fun C => (∃ v, xRet xEX11_ready C v ∧ (C.2.2.2 = r.2 ∧ ∃ x, r.1 = Sum.inl x ∧ v = some (.int x)) ∧ LY r.2) ∨ ∃ k E, r.1 = Sum.inr k ∧ xXs[k]? = some E ∧ XThrown xEX11_ready C E ∧ hthr C.2.2.2 = r.2 ∧ LY r.2) := by
  unfold b_t_ready_37 at hf
  replace hf := xi_none hf
  obtain ⟨qk1, hf⟩ := hf
  cases hf
  exact XR.here (Or.inr ⟨1, _, rfl, rfl, ⟨216, 316, 220, 28, _, rfl, xthr1, ⟨⟨rfl, rfl, rfl⟩, Or.inr ⟨rfl, rfl, rfl⟩⟩, qk1⟩, rfl, LY.new L0 qk1⟩)
def f_t_ready (h : XH) : Option (Sum Int32 Nat × XH) := (Option.bind (f_u_isOpen h) fun r2 => (if r2.1 = 0 then (b_t_ready_37 r2.2) else (Option.bind (hr r2.2 0 4) fun b6 => (if b6 < hz r2.2 ∧ hk r2.2 b6 = 9 then (Option.bind (hr r2.2 b6 1) fun b9 => (if b9 < hz r2.2 ∧ hk r2.2 b9 = 4 then (Option.bind (f_g_at b9 (hi r2.2 1244 10) r2.2) fun r12 => (Option.bind (r12.1) fun b15 => (Option.bind (f_u_hasRequired b15 r12.2) fun r17 => (if ¬ r17.1 = 0 then (Option.bind (f_u_close r17.2) fun r21 => (if ¬ r21.1 = (-1) then (some (Sum.inl r21.1, r21.2)) else (if hz r21.2 < 1000000 then (some (Sum.inr 2, hthr r21.2)) else none))) else (b_t_ready_37 r17.2))))) else none)) else none))))
set_option maxRecDepth 20000 in
theorem kf_t_ready {l : Launch} {G : XG} {d : Nat} {h : XH} {r : Sum Int32 Nat × XH} (hl : l.stackTraces = false) (L0 : LY h) (hf : f_t_ready h = some r) : (∃ x, r.1 = Sum.inl x ∧ XC l G xEX11_ready (d + 6) [.ref 0] h (fun v h2 => (h2 = r.2 ∧ v = some (.int x)) ∧ LY r.2)) ∨ ∃ k E, r.1 = Sum.inr k ∧ xXs[k]? = some E ∧ XCx l G xEX11_ready (d + 6) [.ref 0] h E (fun h2 => h2 = r.2 ∧ LY r.2) := by
  refine xe_of (R := Int32) (V := fun x => some (.int x)) hl xvX11_ready rfl (Nat.le_of_ble_eq_true rfl) (by omega) ?_
  unfold f_t_ready at hf
  refine XR.norm (L3 := [some (.ref 0), none]) rfl ?_
  refine XS.go (s_aloadn rfl rfl rfl) ?_
  refine XS.go (s_getr rfl xf11_46 (LY.lt L0 (by decide)) (LY.k0 L0) (by decide) rfl (LY.r0_6 L0)) ?_
  replace hf := xb_some hf
  obtain ⟨r2, e3, hf⟩ := hf
  refine r_callv rfl xvX0_isOpen xm11_213 (kf_u_isOpen (d := d) L0 e3) (LY.lt L0 (by decide)) (LY.k1244 L0) (by decide) rfl rfl (dl0 (by decide)) (by decide) (Nat.le_of_ble_eq_true rfl) ?_
  rintro _ _ ⟨⟨rfl, rfl⟩, L4⟩
  refine r_if_eq (tgt := 37) rfl rfl (fun qc5 => ?_) (fun qc5 => ?_)
  · replace hf := xi_pos hf qc5
    exact XR.forget (L2 := [none, none]) trivial (kb_t_ready_37 L4 hf)
  · replace hf := xi_neg hf qc5
    refine XS.go (s_aloadn rfl rfl rfl) ?_
    refine XS.go (s_getr rfl xf11_46 (LY.lt L4 (by decide)) (LY.k0 L4) (by decide) rfl (LY.r0_6 L4)) ?_
    refine XS.go (s_aloadn rfl rfl rfl) ?_
    replace hf := xb_some hf
    obtain ⟨b6, qr7, hf⟩ := hf
    refine XS.go (s_getr rfl xf11_36 (LY.lt L4 (by decide)) (LY.k0 L4) (by decide) rfl qr7) ?_
    replace hf := xi_none hf
    obtain ⟨qk8, hf⟩ := hf
    replace hf := xb_some hf
    obtain ⟨b9, qr10, hf⟩ := hf
    refine XS.go (s_getr rfl xf11_116 qk8.1 qk8.2 (by decide) rfl qr10) ?_
    refine XS.go (s_aloadn rfl rfl rfl) ?_
    refine XS.go (s_getr rfl xf11_46 (LY.lt L4 (by decide)) (LY.k0 L4) (by decide) rfl (LY.r0_6 L4)) ?_
    refine XS.go (s_getie rfl xf11_286 (LY.lt L4 (by decide)) (LY.k1244 L4) (by decide) rfl rfl) ?_
    replace hf := xi_none hf
    obtain ⟨qk11, hf⟩ := hf
    replace hf := xb_some hf
    obtain ⟨r12, e13, hf⟩ := hf
    refine r_callv rfl xvX4_at xm11_134 (kf_g_at (d := d) L4 e13) qk11.1 qk11.2 (by decide) rfl rfl (dl0 (by decide)) (by decide) (Nat.le_of_ble_eq_true rfl) ?_
    rintro _ _ ⟨⟨rfl, rfl⟩, L14⟩
    replace hf := xb_some hf
    obtain ⟨b15, qo16, hf⟩ := hf
    try rw [qo16]
    replace hf := xb_some hf
    obtain ⟨r17, e18, hf⟩ := hf
    refine r_callv rfl xvX0_hasRequired xm11_313 (kf_u_hasRequired (d := d) L14 e18) (LY.lt L14 (by decide)) (LY.k1244 L14) (by decide) rfl rfl (dl (by decide)) (by decide) (Nat.le_of_ble_eq_true rfl) ?_
    rintro _ _ ⟨⟨rfl, rfl⟩, L19⟩
    refine r_if_ne (tgt := 48) rfl rfl (fun qc20 => ?_) (fun qc20 => ?_)
    · replace hf := xi_pos hf qc20
      refine XS.go (s_aloadn rfl rfl rfl) ?_
      refine XS.go (s_getr rfl xf11_46 (LY.lt L19 (by decide)) (LY.k0 L19) (by decide) rfl (LY.r0_6 L19)) ?_
      replace hf := xb_some hf
      obtain ⟨r21, e22, hf⟩ := hf
      refine r_callv rfl xvX0_close xm11_318 (kf_u_close (d := d) L19 e22) (LY.lt L19 (by decide)) (LY.k1244 L19) (by decide) rfl rfl (dl (by decide)) (by decide) (Nat.le_of_ble_eq_true rfl) ?_
      rintro _ _ ⟨⟨rfl, rfl⟩, L23⟩
      refine XS.go (XS.lcl (L3 := [some (.ref 0), some (.int r21.1)]) (s_istoren rfl rfl (Nat.le_of_ble_eq_true rfl)) rfl) ?_
      refine XS.go (s_iloadn rfl rfl rfl) ?_
      refine XS.go (s_iconst (v := (-1)) rfl rfl) ?_
      refine r_icmp_ne (tgt := 72) rfl rfl (fun qc24 => ?_) (fun qc24 => ?_)
      · replace hf := xi_pos hf qc24
        refine XS.go (s_iloadn rfl rfl rfl) ?_
        cases hf
        exact XR.reti rfl rfl (fun hret => Or.inl ⟨_, hret, ⟨rfl, ⟨_, rfl, rfl⟩⟩, L23⟩)
      · replace hf := xi_neg hf qc24
        replace hf := xi_none hf
        obtain ⟨qk25, hf⟩ := hf
        cases hf
        exact XR.here (Or.inr ⟨2, _, rfl, rfl, ⟨225, 321, 229, 29, _, rfl, xthr2, ⟨⟨rfl, rfl, rfl⟩, Or.inr ⟨rfl, rfl, rfl⟩⟩, qk25⟩, rfl, LY.new L23 qk25⟩)
    · replace hf := xi_neg hf qc20
      exact XR.forget (L2 := [none, none]) trivial (kb_t_ready_37 L19 hf)
def f_t_finish (a0 : Int32) (h : XH) : Option (Sum Int32 Nat × XH) := (Option.bind (f_u_isOpen h) fun r1 => (if r1.1 = 0 then (Option.bind (hr r1.2 0 4) fun b5 => (if b5 < hz r1.2 ∧ hk r1.2 b5 = 9 then (Option.bind (f_u_isThing (Int32.toInt64 a0) 3 (hi r1.2 b5 5) (-1) r1.2) fun r8 => (if ¬ r8.1 = 0 then (Option.bind (f_u_moveTo 3 a0 r8.2) fun r12 => (if ¬ r12.1 = 0 then (some (Sum.inl (hi r12.2 3 1), r12.2)) else (if hz r12.2 < 1000000 then (some (Sum.inr 2, hthr r12.2)) else none))) else (if hz r8.2 < 1000000 then (some (Sum.inr 0, hthr r8.2)) else none))) else none)) else (if hz r1.2 < 1000000 then (some (Sum.inr 1, hthr r1.2)) else none)))
set_option maxRecDepth 20000 in
theorem kf_t_finish {l : Launch} {G : XG} {d : Nat} {a0 : Int32} {h : XH} {r : Sum Int32 Nat × XH} (hl : l.stackTraces = false) (L0 : LY h) (hf : f_t_finish a0 h = some r) : (∃ x, r.1 = Sum.inl x ∧ XC l G xEX11_finish (d + 6) [.ref 0, .int a0] h (fun v h2 => (h2 = r.2 ∧ v = some (.int x)) ∧ LY r.2)) ∨ ∃ k E, r.1 = Sum.inr k ∧ xXs[k]? = some E ∧ XCx l G xEX11_finish (d + 6) [.ref 0, .int a0] h E (fun h2 => h2 = r.2 ∧ LY r.2) := by
  refine xe_of (R := Int32) (V := fun x => some (.int x)) hl xvX11_finish rfl (Nat.le_of_ble_eq_true rfl) (by omega) ?_
  unfold f_t_finish at hf
  refine XR.norm (L3 := [some (.ref 0), some (.int a0)]) rfl ?_
  refine XS.go (s_aloadn rfl rfl rfl) ?_
  refine XS.go (s_getr rfl xf11_46 (LY.lt L0 (by decide)) (LY.k0 L0) (by decide) rfl (LY.r0_6 L0)) ?_
  replace hf := xb_some hf
  obtain ⟨r1, e2, hf⟩ := hf
  refine r_callv rfl xvX0_isOpen xm11_213 (kf_u_isOpen (d := d) L0 e2) (LY.lt L0 (by decide)) (LY.k1244 L0) (by decide) rfl rfl (dl0 (by decide)) (by decide) (Nat.le_of_ble_eq_true rfl) ?_
  rintro _ _ ⟨⟨rfl, rfl⟩, L3⟩
  refine r_if_eq (tgt := 20) rfl rfl (fun qc4 => ?_) (fun qc4 => ?_)
  · replace hf := xi_pos hf qc4
    refine XS.go (s_aloadn rfl rfl rfl) ?_
    refine XS.go (s_getr rfl xf11_46 (LY.lt L3 (by decide)) (LY.k0 L3) (by decide) rfl (LY.r0_6 L3)) ?_
    refine XS.go (s_iloadn rfl rfl rfl) ?_
    refine XS.go (s_i2l rfl) ?_
    refine XS.go (s_iconst (v := 3) rfl rfl) ?_
    refine XS.go (s_aloadn rfl rfl rfl) ?_
    replace hf := xb_some hf
    obtain ⟨b5, qr6, hf⟩ := hf
    refine XS.go (s_getr rfl xf11_36 (LY.lt L3 (by decide)) (LY.k0 L3) (by decide) rfl qr6) ?_
    replace hf := xi_none hf
    obtain ⟨qk7, hf⟩ := hf
    refine XS.go (s_getie rfl xf11_131 qk7.1 qk7.2 (by decide) rfl rfl) ?_
    refine XS.go (s_iconst (v := (-1)) rfl rfl) ?_
    replace hf := xb_some hf
    obtain ⟨r8, e9, hf⟩ := hf
    refine r_callv rfl xvX0_isThing xm11_268 (kf_u_isThing (d := d) L3 e9) (LY.lt L3 (by decide)) (LY.k1244 L3) (by decide) rfl rfl (dl0 (by decide)) (by decide) (Nat.le_of_ble_eq_true rfl) ?_
    rintro _ _ ⟨⟨rfl, rfl⟩, L10⟩
    refine r_if_ne (tgt := 52) rfl rfl (fun qc11 => ?_) (fun qc11 => ?_)
    · replace hf := xi_pos hf qc11
      refine XS.go (s_aloadn rfl rfl rfl) ?_
      refine XS.go (s_getr rfl xf11_46 (LY.lt L10 (by decide)) (LY.k0 L10) (by decide) rfl (LY.r0_6 L10)) ?_
      refine XS.go (s_aloadn rfl rfl rfl) ?_
      refine XS.go (s_getr rfl xf11_16 (LY.lt L10 (by decide)) (LY.k0 L10) (by decide) rfl (LY.r0_1 L10)) ?_
      refine XS.go (s_iloadn rfl rfl rfl) ?_
      replace hf := xb_some hf
      obtain ⟨r12, e13, hf⟩ := hf
      refine r_callv rfl xvX0_moveTo xm11_325 (kf_u_moveTo (d := d) L10 e13) (LY.lt L10 (by decide)) (LY.k1244 L10) (by decide) rfl rfl (dl (by decide)) (by decide) (Nat.le_of_ble_eq_true rfl) ?_
      rintro _ _ ⟨⟨rfl, rfl⟩, L14⟩
      refine r_if_ne (tgt := 78) rfl rfl (fun qc15 => ?_) (fun qc15 => ?_)
      · replace hf := xi_pos hf qc15
        refine XS.go (s_aloadn rfl rfl rfl) ?_
        refine XS.go (s_getr rfl xf11_16 (LY.lt L14 (by decide)) (LY.k0 L14) (by decide) rfl (LY.r0_1 L14)) ?_
        refine XS.go (s_getie rfl xf11_73 (LY.lt L14 (by decide)) (LY.k3 L14) (by decide) rfl rfl) ?_
        cases hf
        exact XR.reti rfl rfl (fun hret => Or.inl ⟨_, hret, ⟨rfl, ⟨_, rfl, rfl⟩⟩, L14⟩)
      · replace hf := xi_neg hf qc15
        replace hf := xi_none hf
        obtain ⟨qk16, hf⟩ := hf
        cases hf
        exact XR.here (Or.inr ⟨2, _, rfl, rfl, ⟨225, 329, 229, 31, _, rfl, xthr2, ⟨⟨rfl, rfl, rfl⟩, Or.inr ⟨rfl, rfl, rfl⟩⟩, qk16⟩, rfl, LY.new L14 qk16⟩)
    · replace hf := xi_neg hf qc11
      replace hf := xi_none hf
      obtain ⟨qk17, hf⟩ := hf
      cases hf
      exact XR.here (Or.inr ⟨0, _, rfl, rfl, ⟨103, 323, 107, 30, _, rfl, xthr0, ⟨⟨rfl, rfl, rfl⟩, Or.inr ⟨rfl, rfl, rfl⟩⟩, qk17⟩, rfl, LY.new L10 qk17⟩)
  · replace hf := xi_neg hf qc4
    replace hf := xi_none hf
    obtain ⟨qk18, hf⟩ := hf
    cases hf
    exact XR.here (Or.inr ⟨1, _, rfl, rfl, ⟨216, 218, 220, 19, _, rfl, xthr1, ⟨⟨rfl, rfl, rfl⟩, Or.inl ⟨rfl, rfl, rfl⟩⟩, qk18⟩, rfl, LY.new L3 qk18⟩)
def f_t_clear (h : XH) : Option (Int32 × XH) := (Option.bind (f_u_empty h) fun r1 => (some ((hi h 1244 1), r1.2)))
set_option maxRecDepth 20000 in
theorem kf_t_clear {l : Launch} {G : XG} {d : Nat} {h : XH} {r : Int32 × XH} (L0 : LY h) (hf : f_t_clear h = some r) : XC l G xEX11_clear (d + 1) [.ref 0] h (fun v h2 => (h2 = r.2 ∧ v = some (.int r.1)) ∧ LY r.2) := by
  refine XC.virt xvX11_clear (Nat.le_of_ble_eq_true rfl) ?_
  unfold f_t_clear at hf
  refine XR.norm (L3 := [some (.ref 0), none]) rfl ?_
  refine XS.go (s_aloadn rfl rfl rfl) ?_
  refine XS.go (s_getr rfl xf11_46 (LY.lt L0 (by decide)) (LY.k0 L0) (by decide) rfl (LY.r0_6 L0)) ?_
  refine XS.go (s_getie rfl xf11_331 (LY.lt L0 (by decide)) (LY.k1244 L0) (by decide) rfl rfl) ?_
  refine XS.go (XS.lcl (L3 := [some (.ref 0), some (.int (hi h 1244 1))]) (s_istoren rfl rfl (Nat.le_of_ble_eq_true rfl)) rfl) ?_
  refine XS.go (s_aloadn rfl rfl rfl) ?_
  refine XS.go (s_getr rfl xf11_46 (LY.lt L0 (by decide)) (LY.k0 L0) (by decide) rfl (LY.r0_6 L0)) ?_
  replace hf := xb_some hf
  obtain ⟨r1, e2, hf⟩ := hf
  refine r_callv rfl xvX0_empty xm11_110 (kf_u_empty (d := d) L0 e2) (LY.lt L0 (by decide)) (LY.k1244 L0) (by decide) rfl rfl (dl0 (by decide)) (by decide) (Nat.le_of_ble_eq_true rfl) ?_
  rintro _ _ ⟨⟨rfl, rfl⟩, L3⟩
  refine XS.go (s_iloadn rfl rfl rfl) ?_
  cases hf
  exact XR.reti rfl rfl (fun hret => ⟨_, hret, ⟨rfl, rfl⟩, L3⟩)
def f_t_out (a0 : Int32) (h : XH) : Option (Int32 × XH) := (Option.bind (f_b_octetOrNone 3 a0 h) fun r1 => (some (r1.1, r1.2)))
set_option maxRecDepth 20000 in
theorem kf_t_out {l : Launch} {G : XG} {d : Nat} {a0 : Int32} {h : XH} {r : Int32 × XH} (L0 : LY h) (hf : f_t_out a0 h = some r) : XC l G xEX11_out (d + 2) [.ref 0, .int a0] h (fun v h2 => (h2 = r.2 ∧ v = some (.int r.1)) ∧ LY r.2) := by
  refine XC.virt xvX11_out (Nat.le_of_ble_eq_true rfl) ?_
  unfold f_t_out at hf
  refine XR.norm (L3 := [some (.ref 0), some (.int a0)]) rfl ?_
  refine XS.go (s_aloadn rfl rfl rfl) ?_
  refine XS.go (s_getr rfl xf11_16 (LY.lt L0 (by decide)) (LY.k0 L0) (by decide) rfl (LY.r0_1 L0)) ?_
  refine XS.go (s_iloadn rfl rfl rfl) ?_
  replace hf := xb_some hf
  obtain ⟨r1, e2, hf⟩ := hf
  refine r_callv rfl xvX1_octetOrNone xm11_332 (kf_b_octetOrNone (d := d) L0 e2) (LY.lt L0 (by decide)) (LY.k3 L0) (by decide) rfl rfl (dl (by decide)) (by decide) (Nat.le_of_ble_eq_true rfl) ?_
  rintro _ _ ⟨⟨rfl, rfl⟩, L3⟩
  cases hf
  exact XR.reti rfl rfl (fun hret => ⟨_, hret, ⟨rfl, rfl⟩, L3⟩)
def f_t_count (a0 : Int32) (h : XH) : Option (Int32 × XH) := (if a0 = 0 then (some ((hi h 1 1), h)) else (if a0 = 1 then (some ((hi h 5 1), h)) else (if a0 = 2 then (some ((hi h 1244 1), h)) else (if a0 = 3 then (some ((hi h 1244 7), h)) else (if a0 = 4 then (some ((hi h 1244 10), h)) else (if a0 = 5 then (some ((hi h 3 1), h)) else (if a0 = 6 then (some ((hi h 1256 1), h)) else (if a0 = 7 then (some ((hi h 1244 9), h)) else (if a0 = 8 then (some ((hi h 0 12), h)) else (some ((-1), h)))))))))))
set_option maxRecDepth 20000 in
theorem kf_t_count {l : Launch} {G : XG} {d : Nat} {a0 : Int32} {h : XH} {r : Int32 × XH} (L0 : LY h) (hf : f_t_count a0 h = some r) : XC l G xEX11_count d [.ref 0, .int a0] h (fun v h2 => (h2 = r.2 ∧ v = some (.int r.1)) ∧ LY r.2) := by
  refine XC.virt xvX11_count (Nat.le_of_ble_eq_true rfl) ?_
  unfold f_t_count at hf
  refine XR.norm (L3 := [some (.ref 0), some (.int a0)]) rfl ?_
  refine XS.go (s_iloadn rfl rfl rfl) ?_
  by_cases qs1_0 : a0 = 0
  · replace hf := xi_pos hf qs1_0
    refine XS.go (s_tswI (tgt := 52) rfl (by rw [qs1_0]; decide) (by rw [qs1_0]; decide) (by rw [qs1_0]; rfl) rfl) ?_
    refine XS.go (s_aloadn rfl rfl rfl) ?_
    refine XS.go (s_getr rfl xf11_10 (LY.lt L0 (by decide)) (LY.k0 L0) (by decide) rfl (LY.r0_0 L0)) ?_
    refine XS.go (s_getie rfl xf11_73 (LY.lt L0 (by decide)) (LY.k1 L0) (by decide) rfl rfl) ?_
    cases hf
    exact XR.reti rfl rfl (fun hret => ⟨_, hret, ⟨rfl, rfl⟩, L0⟩)
  replace hf := xi_neg hf qs1_0
  by_cases qs1_1 : a0 = 1
  · replace hf := xi_pos hf qs1_1
    refine XS.go (s_tswI (tgt := 60) rfl (by rw [qs1_1]; decide) (by rw [qs1_1]; decide) (by rw [qs1_1]; rfl) rfl) ?_
    refine XS.go (s_aloadn rfl rfl rfl) ?_
    refine XS.go (s_getr rfl xf11_22 (LY.lt L0 (by decide)) (LY.k0 L0) (by decide) rfl (LY.r0_2 L0)) ?_
    refine XS.go (s_getie rfl xf11_335 (LY.lt L0 (by decide)) (LY.k5 L0) (by decide) rfl rfl) ?_
    cases hf
    exact XR.reti rfl rfl (fun hret => ⟨_, hret, ⟨rfl, rfl⟩, L0⟩)
  replace hf := xi_neg hf qs1_1
  by_cases qs1_2 : a0 = 2
  · replace hf := xi_pos hf qs1_2
    refine XS.go (s_tswI (tgt := 68) rfl (by rw [qs1_2]; decide) (by rw [qs1_2]; decide) (by rw [qs1_2]; rfl) rfl) ?_
    refine XS.go (s_aloadn rfl rfl rfl) ?_
    refine XS.go (s_getr rfl xf11_46 (LY.lt L0 (by decide)) (LY.k0 L0) (by decide) rfl (LY.r0_6 L0)) ?_
    refine XS.go (s_getie rfl xf11_331 (LY.lt L0 (by decide)) (LY.k1244 L0) (by decide) rfl rfl) ?_
    cases hf
    exact XR.reti rfl rfl (fun hret => ⟨_, hret, ⟨rfl, rfl⟩, L0⟩)
  replace hf := xi_neg hf qs1_2
  by_cases qs1_3 : a0 = 3
  · replace hf := xi_pos hf qs1_3
    refine XS.go (s_tswI (tgt := 76) rfl (by rw [qs1_3]; decide) (by rw [qs1_3]; decide) (by rw [qs1_3]; rfl) rfl) ?_
    refine XS.go (s_aloadn rfl rfl rfl) ?_
    refine XS.go (s_getr rfl xf11_46 (LY.lt L0 (by decide)) (LY.k0 L0) (by decide) rfl (LY.r0_6 L0)) ?_
    refine XS.go (s_getie rfl xf11_336 (LY.lt L0 (by decide)) (LY.k1244 L0) (by decide) rfl rfl) ?_
    cases hf
    exact XR.reti rfl rfl (fun hret => ⟨_, hret, ⟨rfl, rfl⟩, L0⟩)
  replace hf := xi_neg hf qs1_3
  by_cases qs1_4 : a0 = 4
  · replace hf := xi_pos hf qs1_4
    refine XS.go (s_tswI (tgt := 84) rfl (by rw [qs1_4]; decide) (by rw [qs1_4]; decide) (by rw [qs1_4]; rfl) rfl) ?_
    refine XS.go (s_aloadn rfl rfl rfl) ?_
    refine XS.go (s_getr rfl xf11_46 (LY.lt L0 (by decide)) (LY.k0 L0) (by decide) rfl (LY.r0_6 L0)) ?_
    refine XS.go (s_getie rfl xf11_286 (LY.lt L0 (by decide)) (LY.k1244 L0) (by decide) rfl rfl) ?_
    cases hf
    exact XR.reti rfl rfl (fun hret => ⟨_, hret, ⟨rfl, rfl⟩, L0⟩)
  replace hf := xi_neg hf qs1_4
  by_cases qs1_5 : a0 = 5
  · replace hf := xi_pos hf qs1_5
    refine XS.go (s_tswI (tgt := 92) rfl (by rw [qs1_5]; decide) (by rw [qs1_5]; decide) (by rw [qs1_5]; rfl) rfl) ?_
    refine XS.go (s_aloadn rfl rfl rfl) ?_
    refine XS.go (s_getr rfl xf11_16 (LY.lt L0 (by decide)) (LY.k0 L0) (by decide) rfl (LY.r0_1 L0)) ?_
    refine XS.go (s_getie rfl xf11_73 (LY.lt L0 (by decide)) (LY.k3 L0) (by decide) rfl rfl) ?_
    cases hf
    exact XR.reti rfl rfl (fun hret => ⟨_, hret, ⟨rfl, rfl⟩, L0⟩)
  replace hf := xi_neg hf qs1_5
  by_cases qs1_6 : a0 = 6
  · replace hf := xi_pos hf qs1_6
    refine XS.go (s_tswI (tgt := 100) rfl (by rw [qs1_6]; decide) (by rw [qs1_6]; decide) (by rw [qs1_6]; rfl) rfl) ?_
    refine XS.go (s_aloadn rfl rfl rfl) ?_
    refine XS.go (s_getr rfl xf11_53 (LY.lt L0 (by decide)) (LY.k0 L0) (by decide) rfl (LY.r0_7 L0)) ?_
    refine XS.go (s_getr rfl xf11_339 (LY.lt L0 (by decide)) (LY.k1255 L0) (by decide) rfl (LY.r1255_0 L0)) ?_
    refine XS.go (s_getie rfl xf11_73 (LY.lt L0 (by decide)) (LY.k1256 L0) (by decide) rfl rfl) ?_
    cases hf
    exact XR.reti rfl rfl (fun hret => ⟨_, hret, ⟨rfl, rfl⟩, L0⟩)
  replace hf := xi_neg hf qs1_6
  by_cases qs1_7 : a0 = 7
  · replace hf := xi_pos hf qs1_7
    refine XS.go (s_tswI (tgt := 111) rfl (by rw [qs1_7]; decide) (by rw [qs1_7]; decide) (by rw [qs1_7]; rfl) rfl) ?_
    refine XS.go (s_aloadn rfl rfl rfl) ?_
    refine XS.go (s_getr rfl xf11_46 (LY.lt L0 (by decide)) (LY.k0 L0) (by decide) rfl (LY.r0_6 L0)) ?_
    refine XS.go (s_getie rfl xf11_342 (LY.lt L0 (by decide)) (LY.k1244 L0) (by decide) rfl rfl) ?_
    cases hf
    exact XR.reti rfl rfl (fun hret => ⟨_, hret, ⟨rfl, rfl⟩, L0⟩)
  replace hf := xi_neg hf qs1_7
  by_cases qs1_8 : a0 = 8
  · replace hf := xi_pos hf qs1_8
    refine XS.go (s_tswI (tgt := 119) rfl (by rw [qs1_8]; decide) (by rw [qs1_8]; decide) (by rw [qs1_8]; rfl) rfl) ?_
    refine XS.go (s_aloadn rfl rfl rfl) ?_
    refine XS.go (s_getie rfl xf11_70 (LY.lt L0 (by decide)) (LY.k0 L0) (by decide) rfl rfl) ?_
    cases hf
    exact XR.reti rfl rfl (fun hret => ⟨_, hret, ⟨rfl, rfl⟩, L0⟩)
  replace hf := xi_neg hf qs1_8
  have qs1_o : (a0).toInt < 0 ∨ 8 < (a0).toInt := by
    refine tsw_out 0 8 (by decide) ?_
    intro k h1 h2
    have z : k = 0 ∨ k = 1 ∨ k = 2 ∨ k = 3 ∨ k = 4 ∨ k = 5 ∨ k = 6 ∨ k = 7 ∨ k = 8 := by omega
    rcases z with rfl | rfl | rfl | rfl | rfl | rfl | rfl | rfl | rfl
    · exact qs1_0
    · exact qs1_1
    · exact qs1_2
    · exact qs1_3
    · exact qs1_4
    · exact qs1_5
    · exact qs1_6
    · exact qs1_7
    · exact qs1_8
  refine XS.go (s_tswO (tgt := 124) rfl qs1_o rfl) ?_
  refine XS.go (s_iconst (v := (-1)) rfl rfl) ?_
  cases hf
  exact XR.reti rfl rfl (fun hret => ⟨_, hret, ⟨rfl, rfl⟩, L0⟩)
def b_t_load_53 (x2 : Nat) (x3 : Int32) (h : XH) : Option (Sum Int32 Nat × XH) := (Option.bind (hr h 0 4) fun b1 => (if b1 < hz h ∧ hk h b1 = 9 then (if ¬ (hi h b1 5) = (-1) then (if hz h < 1000000 then (Option.bind (hr (hnew h 5 6) 0 4) fun b7 => (if (hz h) < hz (hnew h 5 6) ∧ hk (hnew h 5 6) (hz h) = 5 then (Option.bind (f_j_init (hz h) b7 x2 x3 (hnew h 5 6)) fun r10 => (if (hz h) < hz r10.2 ∧ hk r10.2 (hz h) = 5 then (Option.bind (f_j_accepts (hz h) r10.2) fun r14 => (if (hz h) < hz r14.2 ∧ hk r14.2 (hz h) = 5 then (if r14.1 = 0 then (if r14.1 = 0 ∨ r14.1 = 1 then (some (Sum.inl r14.1, (hsi (hsi r14.2 0 10 (hi r14.2 (hz h) 4)) 0 11 (hi r14.2 (hz h) 5)))) else none) else (Option.bind (hr r14.2 0 4) fun b20 => (if b20 < hz r14.2 ∧ hk r14.2 b20 = 9 then (Option.bind (f_r_accept x2 x3 (hi r14.2 b20 5) (hsi (hsi (hsi r14.2 0 10 (hi r14.2 (hz h) 4)) 0 11 (hi r14.2 (hz h) 5)) 0 12 (hi r14.2 (hz h) 3))) fun r23 => (if r14.1 = 0 ∨ r14.1 = 1 then (some (Sum.inl r14.1, r23.2)) else none)) else none))) else none)) else none)) else none)) else none) else (if hz h < 1000000 then (some (Sum.inr 1, hthr h)) else none)) else none))
set_option maxRecDepth 20000 in
theorem kb_t_load_53 {l : Launch} {G : XG} {d : Nat} {x2 : Nat} {x3 : Int32} {h : XH} {r : Sum Int32 Nat × XH} (L0 : LY h) (hf : b_t_load_53 x2 x3 h = some r) : XR l G xEX11_load (d + 202) (53, [some (.ref 0), none, some (.ref x2), some (.int x3), none, none], [], h) (fun C => (∃ v, xRet xEX11_load C v ∧ (C.2.2.2 = r.2 ∧ ∃ x, r.1 = Sum.inl x ∧ v = some (.int x)) ∧ LY r.2) ∨ ∃ k E, r.1 = Sum.inr k ∧ xXs[k]? = some E ∧ XThrown xEX11_load C E ∧ hthr C.2.2.2 = r.2 ∧ LY r.2) := by
  unfold b_t_load_53 at hf
  refine XS.go (s_aloadn rfl rfl rfl) ?_
  replace hf := xb_some hf
  obtain ⟨b1, qr2, hf⟩ := hf
  refine XS.go (s_getr rfl xf11_36 (LY.lt L0 (by decide)) (LY.k0 L0) (by decide) rfl qr2) ?_
  replace hf := xi_none hf
  obtain ⟨qk3, hf⟩ := hf
  refine XS.go (s_getie rfl xf11_131 qk3.1 qk3.2 (by decide) rfl rfl) ?_
  refine XS.go (s_iconst (v := (-1)) rfl rfl) ?_
  refine r_icmp_ne (tgt := 75) rfl rfl (fun qc4 => ?_) (fun qc4 => ?_)
  · replace hf := xi_pos hf qc4
    replace hf := xi_none hf
    obtain ⟨qk5, hf⟩ := hf
    have L6 : LY (hnew h 5 6) := LY.new L0 qk5
    refine XS.go (s_new (ci := 5) rfl (lg_3 175 rfl rfl) (by decide) rfl qk5) ?_
    refine XS.go (s_dup rfl rfl) ?_
    refine XS.go (s_aloadn rfl rfl rfl) ?_
    replace hf := xb_some hf
    obtain ⟨b7, qr8, hf⟩ := hf
    refine XS.go (s_getr rfl xf11_36 (LY.lt L6 (by decide)) (LY.k0 L6) (by decide) rfl qr8) ?_
    refine XS.go (s_aloadn rfl rfl rfl) ?_
    refine XS.go (s_iloadn rfl rfl rfl) ?_
    replace hf := xi_none hf
    obtain ⟨qk9, hf⟩ := hf
    replace hf := xb_some hf
    obtain ⟨r10, e11, hf⟩ := hf
    refine r_calli rfl xnX5_init rfl xm11_351 (kf_j_init (d := d) L6 e11) rfl rfl (dl (by decide)) (by decide) (Nat.le_of_ble_eq_true rfl) ?_
    rintro _ _ ⟨⟨rfl, rfl⟩, L12⟩
    refine XS.go (XS.lcl (L3 := [some (.ref 0), none, some (.ref x2), some (.int x3), some (.ref (hz h)), none]) (s_astore rfl (Nat.le_of_ble_eq_true rfl)) rfl) ?_
    refine XS.go (s_aload rfl rfl) ?_
    replace hf := xi_none hf
    obtain ⟨qk13, hf⟩ := hf
    replace hf := xb_some hf
    obtain ⟨r14, e15, hf⟩ := hf
    refine r_callv rfl xvX5_accepts xm11_354 (kf_j_accepts (d := d) L12 e15) qk13.1 qk13.2 (by decide) rfl rfl (dl (by decide)) (by decide) (Nat.le_of_ble_eq_true rfl) ?_
    rintro _ _ ⟨⟨rfl, rfl⟩, L16⟩
    refine XS.go (XS.lcl (L3 := [some (.ref 0), none, some (.ref x2), some (.int x3), some (.ref (hz h)), some (.int r14.1)]) (s_istore rfl (Nat.le_of_ble_eq_true rfl)) rfl) ?_
    refine XS.go (s_aloadn rfl rfl rfl) ?_
    refine XS.go (s_aload rfl rfl) ?_
    replace hf := xi_none hf
    obtain ⟨qk17, hf⟩ := hf
    refine XS.go (s_getie rfl xf11_357 qk17.1 qk17.2 (by decide) rfl rfl) ?_
    refine XS.go (s_puti rfl xf11_64 (LY.lt L16 (by decide)) (LY.k0 L16) (by decide) rfl (Or.inl rfl)) ?_
    refine XS.go (s_aloadn rfl rfl rfl) ?_
    refine XS.go (s_aload rfl rfl) ?_
    refine XS.go (s_getie rfl xf11_358 (show (hz h) < hz _ by simp only [hz_hsi, hk_hsi, hz_hsj, hk_hsj]; exact qk17.1) (by simp only [hz_hsi, hk_hsi, hz_hsj, hk_hsj]; exact qk17.2) (by decide) rfl (hi_hsi_nk (by decide))) ?_
    refine XS.go (s_puti rfl xf11_67 (LY.lt (by simp only [LY_si, LY_sj]; exact L16) (by decide)) (LY.k0 (by simp only [LY_si, LY_sj]; exact L16)) (by decide) rfl (Or.inl rfl)) ?_
    refine XS.go (s_iload rfl rfl) ?_
    refine r_if_eq (tgt := 145) rfl rfl (fun qc18 => ?_) (fun qc18 => ?_)
    · replace hf := xi_pos hf qc18
      refine XS.go (s_iload rfl rfl) ?_
      replace hf := xi_none hf
      obtain ⟨qk19, hf⟩ := hf
      cases hf
      exact XR.retz rfl rfl qk19 (fun hret => Or.inl ⟨_, hret, ⟨rfl, ⟨_, rfl, rfl⟩⟩, (by simp only [LY_si, LY_sj]; exact L16)⟩)
    · replace hf := xi_neg hf qc18
      refine XS.go (s_aloadn rfl rfl rfl) ?_
      refine XS.go (s_aload rfl rfl) ?_
      refine XS.go (s_getie rfl xf11_359 (show (hz h) < hz _ by simp only [hz_hsi, hk_hsi, hz_hsj, hk_hsj]; exact qk17.1) (by simp only [hz_hsi, hk_hsi, hz_hsj, hk_hsj]; exact qk17.2) (by decide) rfl ((hi_hsi_nk (by decide)).trans (hi_hsi_nk (by decide)))) ?_
      refine XS.go (s_puti rfl xf11_70 (LY.lt (by simp only [LY_si, LY_sj]; exact L16) (by decide)) (LY.k0 (by simp only [LY_si, LY_sj]; exact L16)) (by decide) rfl (Or.inl rfl)) ?_
      refine XS.go (s_aloadn rfl rfl rfl) ?_
      refine XS.go (s_getr rfl xf11_53 (LY.lt (by simp only [LY_si, LY_sj]; exact L16) (by decide)) (LY.k0 (by simp only [LY_si, LY_sj]; exact L16)) (by decide) rfl (LY.r0_7 (by simp only [LY_si, LY_sj]; exact L16))) ?_
      refine XS.go (s_aloadn rfl rfl rfl) ?_
      refine XS.go (s_iloadn rfl rfl rfl) ?_
      refine XS.go (s_aloadn rfl rfl rfl) ?_
      replace hf := xb_some hf
      obtain ⟨b20, qr21, hf⟩ := hf
      refine XS.go (s_getr rfl xf11_36 (LY.lt (by simp only [LY_si, LY_sj]; exact L16) (by decide)) (LY.k0 (by simp only [LY_si, LY_sj]; exact L16)) (by decide) rfl (by simp only [hr_hsi, hr_hsj]; exact qr21)) ?_
      replace hf := xi_none hf
      obtain ⟨qk22, hf⟩ := hf
      refine XS.go (s_getie rfl xf11_131 (show b20 < hz _ by simp only [hz_hsi, hk_hsi, hz_hsj, hk_hsj]; exact qk22.1) (by simp only [hz_hsi, hk_hsi, hz_hsj, hk_hsj]; exact qk22.2) (by decide) rfl ((hi_hsi_nk (by decide)).trans ((hi_hsi_nk (by decide)).trans (hi_hsi_nk (by decide))))) ?_
      replace hf := xb_some hf
      obtain ⟨r23, e24, hf⟩ := hf
      refine r_callv rfl xvX8_accept xm11_360 (kf_r_accept (d := d) (by simp only [LY_si, LY_sj]; exact L16) e24) (LY.lt (by simp only [LY_si, LY_sj]; exact L16) (by decide)) (LY.k1255 (by simp only [LY_si, LY_sj]; exact L16)) (by decide) rfl rfl (dl (by decide)) (by decide) (Nat.le_of_ble_eq_true rfl) ?_
      rintro _ _ ⟨⟨rfl, rfl⟩, L25⟩
      refine XS.go (s_iload rfl rfl) ?_
      replace hf := xi_none hf
      obtain ⟨qk26, hf⟩ := hf
      cases hf
      exact XR.retz rfl rfl qk26 (fun hret => Or.inl ⟨_, hret, ⟨rfl, ⟨_, rfl, rfl⟩⟩, L25⟩)
  · replace hf := xi_neg hf qc4
    replace hf := xi_none hf
    obtain ⟨qk27, hf⟩ := hf
    cases hf
    exact XR.here (Or.inr ⟨1, _, rfl, rfl, ⟨216, 347, 220, 33, _, rfl, xthr1, ⟨⟨rfl, rfl, rfl⟩, Or.inr ⟨rfl, rfl, rfl⟩⟩, qk27⟩, rfl, LY.new L0 qk27⟩)
def b_t_load_35 (x1 : Int32) (y0 : Nat) (h : XH) : Option (Sum Int32 Nat × XH) := (if y0 < hz h ∧ hk h y0 = 1 then (if ¬ x1 = 0 then (b_t_load_53 y0 (hi h y0 1) h) else (b_t_load_53 y0 (hi h y0 1) (hsi h 1 1 0))) else none)
set_option maxRecDepth 20000 in
theorem kb_t_load_35 {l : Launch} {G : XG} {d : Nat} {x1 : Int32} {y0 : Nat} {h : XH} {r : Sum Int32 Nat × XH} (L0 : LY h) (hf : b_t_load_35 x1 y0 h = some r) : XR l G xEX11_load (d + 202) (35, [some (.ref 0), some (.int x1), none, none, none, none], [(.ref y0)], h) (fun C => (∃ v, xRet xEX11_load C v ∧ (C.2.2.2 = r.2 ∧ ∃ x, r.1 = Sum.inl x ∧ v = some (.int x)) ∧ LY r.2) ∨ ∃ k E, r.1 = Sum.inr k ∧ xXs[k]? = some E ∧ XThrown xEX11_load C E ∧ hthr C.2.2.2 = r.2 ∧ LY r.2) := by
  unfold b_t_load_35 at hf
  refine XS.go (XS.lcl (L3 := [some (.ref 0), some (.int x1), some (.ref y0), none, none, none]) (s_astoren rfl rfl (Nat.le_of_ble_eq_true rfl)) rfl) ?_
  refine XS.go (s_aloadn rfl rfl rfl) ?_
  replace hf := xi_none hf
  obtain ⟨qk28, hf⟩ := hf
  refine XS.go (s_getie rfl xf11_73 qk28.1 qk28.2 (by decide) rfl rfl) ?_
  refine XS.go (XS.lcl (L3 := [some (.ref 0), some (.int x1), some (.ref y0), some (.int (hi h y0 1)), none, none]) (s_istoren rfl rfl (Nat.le_of_ble_eq_true rfl)) rfl) ?_
  refine XS.go (s_iloadn rfl rfl rfl) ?_
  refine r_if_ne (tgt := 53) rfl rfl (fun qc29 => ?_) (fun qc29 => ?_)
  · replace hf := xi_pos hf qc29
    exact XR.forget (L2 := [some (.ref 0), none, some (.ref y0), some (.int (hi h y0 1)), none, none]) ⟨rfl, ⟨rfl, ⟨rfl, trivial⟩⟩⟩ (kb_t_load_53 L0 hf)
  · replace hf := xi_neg hf qc29
    refine XS.go (s_aloadn rfl rfl rfl) ?_
    refine XS.go (s_getr rfl xf11_10 (LY.lt L0 (by decide)) (LY.k0 L0) (by decide) rfl (LY.r0_0 L0)) ?_
    refine XS.go (s_iconst (v := 0) rfl rfl) ?_
    refine XS.go (s_puti rfl xf11_73 (LY.lt L0 (by decide)) (LY.k1 L0) (by decide) rfl (Or.inl rfl)) ?_
    exact XR.forget (L2 := [some (.ref 0), none, some (.ref y0), some (.int (hi h y0 1)), none, none]) ⟨rfl, ⟨rfl, ⟨rfl, trivial⟩⟩⟩ (kb_t_load_53 (by simp only [LY_si, LY_sj]; exact L0) hf)
def b_t_load_20 (x1 : Int32) (h : XH) : Option (Sum Int32 Nat × XH) := (if ¬ x1 = 0 then (b_t_load_35 x1 3 h) else (b_t_load_35 x1 1 h))
set_option maxRecDepth 20000 in
theorem kb_t_load_20 {l : Launch} {G : XG} {d : Nat} {x1 : Int32} {h : XH} {r : Sum Int32 Nat × XH} (L0 : LY h) (hf : b_t_load_20 x1 h = some r) : XR l G xEX11_load (d + 202) (20, [some (.ref 0), some (.int x1), none, none, none, none], [], h) (fun C => (∃ v, xRet xEX11_load C v ∧ (C.2.2.2 = r.2 ∧ ∃ x, r.1 = Sum.inl x ∧ v = some (.int x)) ∧ LY r.2) ∨ ∃ k E, r.1 = Sum.inr k ∧ xXs[k]? = some E ∧ XThrown xEX11_load C E ∧ hthr C.2.2.2 = r.2 ∧ LY r.2) := by
  unfold b_t_load_20 at hf
  refine XS.go (s_iloadn rfl rfl rfl) ?_
  refine r_if_ne (tgt := 31) rfl rfl (fun qc30 => ?_) (fun qc30 => ?_)
  · replace hf := xi_pos hf qc30
    refine XS.go (s_aloadn rfl rfl rfl) ?_
    refine XS.go (s_getr rfl xf11_16 (LY.lt L0 (by decide)) (LY.k0 L0) (by decide) rfl (LY.r0_1 L0)) ?_
    exact XR.forget (L2 := [some (.ref 0), some (.int x1), none, none, none, none]) ⟨rfl, ⟨rfl, trivial⟩⟩ (kb_t_load_35 L0 hf)
  · replace hf := xi_neg hf qc30
    refine XS.go (s_aloadn rfl rfl rfl) ?_
    refine XS.go (s_getr rfl xf11_10 (LY.lt L0 (by decide)) (LY.k0 L0) (by decide) rfl (LY.r0_0 L0)) ?_
    refine XS.go (s_goto (tgt := 35) rfl rfl) ?_
    exact XR.forget (L2 := [some (.ref 0), some (.int x1), none, none, none, none]) ⟨rfl, ⟨rfl, trivial⟩⟩ (kb_t_load_35 L0 hf)
def f_t_load (a0 : Int32) (h : XH) : Option (Sum Int32 Nat × XH) := (if a0 = 0 then (b_t_load_20 a0 h) else (if a0 = 1 then (b_t_load_20 a0 h) else (if hz h < 1000000 then (some (Sum.inr 0, hthr h)) else none)))
set_option maxRecDepth 20000 in
theorem kf_t_load {l : Launch} {G : XG} {d : Nat} {a0 : Int32} {h : XH} {r : Sum Int32 Nat × XH} (hl : l.stackTraces = false) (L0 : LY h) (hf : f_t_load a0 h = some r) : (∃ x, r.1 = Sum.inl x ∧ XC l G xEX11_load (d + 202) [.ref 0, .int a0] h (fun v h2 => (h2 = r.2 ∧ v = some (.int x)) ∧ LY r.2)) ∨ ∃ k E, r.1 = Sum.inr k ∧ xXs[k]? = some E ∧ XCx l G xEX11_load (d + 202) [.ref 0, .int a0] h E (fun h2 => h2 = r.2 ∧ LY r.2) := by
  refine xe_of (R := Int32) (V := fun x => some (.int x)) hl xvX11_load rfl (Nat.le_of_ble_eq_true rfl) (by omega) ?_
  unfold f_t_load at hf
  refine XR.norm (L3 := [some (.ref 0), some (.int a0), none, none, none, none]) rfl ?_
  refine XS.go (s_iloadn rfl rfl rfl) ?_
  refine r_if_eq (tgt := 20) rfl rfl (fun qc31 => ?_) (fun qc31 => ?_)
  · replace hf := xi_pos hf qc31
    exact XR.forget (L2 := [some (.ref 0), some (.int a0), none, none, none, none]) ⟨rfl, ⟨rfl, trivial⟩⟩ (kb_t_load_20 L0 hf)
  · replace hf := xi_neg hf qc31
    refine XS.go (s_iloadn rfl rfl rfl) ?_
    refine XS.go (s_iconst (v := 1) rfl rfl) ?_
    refine r_icmp_eq (tgt := 20) rfl rfl (fun qc32 => ?_) (fun qc32 => ?_)
    · replace hf := xi_pos hf qc32
      exact XR.forget (L2 := [some (.ref 0), some (.int a0), none, none, none, none]) ⟨rfl, ⟨rfl, trivial⟩⟩ (kb_t_load_20 L0 hf)
    · replace hf := xi_neg hf qc32
      replace hf := xi_none hf
      obtain ⟨qk33, hf⟩ := hf
      cases hf
      exact XR.here (Or.inr ⟨0, _, rfl, rfl, ⟨103, 345, 107, 32, _, rfl, xthr0, ⟨⟨rfl, rfl, rfl⟩, Or.inr ⟨rfl, rfl, rfl⟩⟩, qk33⟩, rfl, LY.new L0 qk33⟩)
def f_t_node (a0 : Int32) (h : XH) : Option (Int32 × XH) := (Option.bind (hr h 0 4) fun b1 => (Option.bind (f_r_tell b1 a0 h) fun r3 => (some (r3.1, r3.2))))
set_option maxRecDepth 20000 in
theorem kf_t_node {l : Launch} {G : XG} {d : Nat} {a0 : Int32} {h : XH} {r : Int32 × XH} (L0 : LY h) (hf : f_t_node a0 h = some r) : XC l G xEX11_node (d + 4) [.ref 0, .int a0] h (fun v h2 => (h2 = r.2 ∧ v = some (.int r.1)) ∧ LY r.2) := by
  refine XC.virt xvX11_node (Nat.le_of_ble_eq_true rfl) ?_
  unfold f_t_node at hf
  refine XR.norm (L3 := [some (.ref 0), some (.int a0)]) rfl ?_
  refine XS.go (s_aloadn rfl rfl rfl) ?_
  refine XS.go (s_getr rfl xf11_53 (LY.lt L0 (by decide)) (LY.k0 L0) (by decide) rfl (LY.r0_7 L0)) ?_
  refine XS.go (s_aloadn rfl rfl rfl) ?_
  replace hf := xb_some hf
  obtain ⟨b1, qr2, hf⟩ := hf
  refine XS.go (s_getr rfl xf11_36 (LY.lt L0 (by decide)) (LY.k0 L0) (by decide) rfl qr2) ?_
  refine XS.go (s_iloadn rfl rfl rfl) ?_
  replace hf := xb_some hf
  obtain ⟨r3, e4, hf⟩ := hf
  refine r_callv rfl xvX8_tell xm11_364 (kf_r_tell (d := d) L0 e4) (LY.lt L0 (by decide)) (LY.k1255 L0) (by decide) rfl rfl (dl (by decide)) (by decide) (Nat.le_of_ble_eq_true rfl) ?_
  rintro _ _ ⟨⟨rfl, rfl⟩, L5⟩
  cases hf
  exact XR.reti rfl rfl (fun hret => ⟨_, hret, ⟨rfl, rfl⟩, L5⟩)
def f_t_has (a0 : Int32) (h : XH) : Option (Int32 × XH) := (Option.bind (hr h 0 4) fun b1 => (Option.bind (f_r_locate b1 a0 h) fun r3 => (if ¬ r3.1 = 0 then (if ¬ (hi r3.2 1255 8) = (-1) then (some (1, r3.2)) else (some (0, r3.2))) else (some ((-1), r3.2)))))
set_option maxRecDepth 20000 in
theorem kf_t_has {l : Launch} {G : XG} {d : Nat} {a0 : Int32} {h : XH} {r : Int32 × XH} (L0 : LY h) (hf : f_t_has a0 h = some r) : XC l G xEX11_has (d + 6) [.ref 0, .int a0] h (fun v h2 => (h2 = r.2 ∧ v = some (.int r.1)) ∧ LY r.2) := by
  refine XC.virt xvX11_has (Nat.le_of_ble_eq_true rfl) ?_
  unfold f_t_has at hf
  refine XR.norm (L3 := [some (.ref 0), some (.int a0)]) rfl ?_
  refine XS.go (s_aloadn rfl rfl rfl) ?_
  refine XS.go (s_getr rfl xf11_53 (LY.lt L0 (by decide)) (LY.k0 L0) (by decide) rfl (LY.r0_7 L0)) ?_
  refine XS.go (s_aloadn rfl rfl rfl) ?_
  replace hf := xb_some hf
  obtain ⟨b1, qr2, hf⟩ := hf
  refine XS.go (s_getr rfl xf11_36 (LY.lt L0 (by decide)) (LY.k0 L0) (by decide) rfl qr2) ?_
  refine XS.go (s_iloadn rfl rfl rfl) ?_
  replace hf := xb_some hf
  obtain ⟨r3, e4, hf⟩ := hf
  refine r_callv rfl xvX8_locate xm11_368 (kf_r_locate (d := d) L0 e4) (LY.lt L0 (by decide)) (LY.k1255 L0) (by decide) rfl rfl (dl (by decide)) (by decide) (Nat.le_of_ble_eq_true rfl) ?_
  rintro _ _ ⟨⟨rfl, rfl⟩, L5⟩
  refine r_if_ne (tgt := 17) rfl rfl (fun qc6 => ?_) (fun qc6 => ?_)
  · replace hf := xi_pos hf qc6
    refine XS.go (s_aloadn rfl rfl rfl) ?_
    refine XS.go (s_getr rfl xf11_53 (LY.lt L5 (by decide)) (LY.k0 L5) (by decide) rfl (LY.r0_7 L5)) ?_
    refine XS.go (s_getie rfl xf11_372 (LY.lt L5 (by decide)) (LY.k1255 L5) (by decide) rfl rfl) ?_
    refine XS.go (s_iconst (v := (-1)) rfl rfl) ?_
    refine r_icmp_ne (tgt := 32) rfl rfl (fun qc7 => ?_) (fun qc7 => ?_)
    · replace hf := xi_pos hf qc7
      refine XS.go (s_iconst (v := 1) rfl rfl) ?_
      cases hf
      exact XR.reti rfl rfl (fun hret => ⟨_, hret, ⟨rfl, rfl⟩, L5⟩)
    · replace hf := xi_neg hf qc7
      refine XS.go (s_iconst (v := 0) rfl rfl) ?_
      refine XS.go (s_goto (tgt := 33) rfl rfl) ?_
      cases hf
      exact XR.reti rfl rfl (fun hret => ⟨_, hret, ⟨rfl, rfl⟩, L5⟩)
  · replace hf := xi_neg hf qc6
    refine XS.go (s_iconst (v := (-1)) rfl rfl) ?_
    cases hf
    exact XR.reti rfl rfl (fun hret => ⟨_, hret, ⟨rfl, rfl⟩, L5⟩)
def b_t_read_25 (h : XH) : Option (Sum Int64 Nat × XH) := (if hz h < 1000000 then (some (Sum.inr 3, hthr h)) else none)
set_option maxRecDepth 20000 in
theorem kb_t_read_25 {l : Launch} {G : XG} {d : Nat} {h : XH} {r : Sum Int64 Nat × XH} (L0 : LY h) (hf : b_t_read_25 h = some r) : XR l G xEX11_read (d + 6) (25, [none, none], [], h) (fun C => (∃ v, xRet xEX11_read C v ∧ (C.2.2.2 = r.2 ∧ ∃ x, r.1 = Sum.inl x ∧ v = some (.long x)) ∧ LY r.2) ∨ ∃ k E, r.1 = Sum.inr k ∧ xXs[k]? = some E ∧ XThrown xEX11_read C E ∧ hthr C.2.2.2 = r.2 ∧ LY r.2) := by
  unfold b_t_read_25 at hf
  replace hf := xi_none hf
  obtain ⟨qk1, hf⟩ := hf
  cases hf
  exact XR.here (Or.inr ⟨3, _, rfl, rfl, ⟨276, 378, 280, 34, _, rfl, xthr3, ⟨⟨rfl, rfl, rfl⟩, Or.inr ⟨rfl, rfl, rfl⟩⟩, qk1⟩, rfl, LY.new L0 qk1⟩)
def f_t_read (a0 : Int32) (h : XH) : Option (Sum Int64 Nat × XH) := (Option.bind (hr h 0 4) fun b2 => (Option.bind (f_r_locate b2 a0 h) fun r4 => (if r4.1 = 0 then (b_t_read_25 r4.2) else (Option.bind (f_r_isPartReadable r4.2) fun r8 => (if ¬ r8.1 = 0 then (Option.bind (f_r_partValue r8.2) fun r12 => (some (Sum.inl r12.1, r12.2))) else (b_t_read_25 r8.2))))))
set_option maxRecDepth 20000 in
theorem kf_t_read {l : Launch} {G : XG} {d : Nat} {a0 : Int32} {h : XH} {r : Sum Int64 Nat × XH} (hl : l.stackTraces = false) (L0 : LY h) (hf : f_t_read a0 h = some r) : (∃ x, r.1 = Sum.inl x ∧ XC l G xEX11_read (d + 6) [.ref 0, .int a0] h (fun v h2 => (h2 = r.2 ∧ v = some (.long x)) ∧ LY r.2)) ∨ ∃ k E, r.1 = Sum.inr k ∧ xXs[k]? = some E ∧ XCx l G xEX11_read (d + 6) [.ref 0, .int a0] h E (fun h2 => h2 = r.2 ∧ LY r.2) := by
  refine xe_of (R := Int64) (V := fun x => some (.long x)) hl xvX11_read rfl (Nat.le_of_ble_eq_true rfl) (by omega) ?_
  unfold f_t_read at hf
  refine XR.norm (L3 := [some (.ref 0), some (.int a0)]) rfl ?_
  refine XS.go (s_aloadn rfl rfl rfl) ?_
  refine XS.go (s_getr rfl xf11_53 (LY.lt L0 (by decide)) (LY.k0 L0) (by decide) rfl (LY.r0_7 L0)) ?_
  refine XS.go (s_aloadn rfl rfl rfl) ?_
  replace hf := xb_some hf
  obtain ⟨b2, qr3, hf⟩ := hf
  refine XS.go (s_getr rfl xf11_36 (LY.lt L0 (by decide)) (LY.k0 L0) (by decide) rfl qr3) ?_
  refine XS.go (s_iloadn rfl rfl rfl) ?_
  replace hf := xb_some hf
  obtain ⟨r4, e5, hf⟩ := hf
  refine r_callv rfl xvX8_locate xm11_368 (kf_r_locate (d := d) L0 e5) (LY.lt L0 (by decide)) (LY.k1255 L0) (by decide) rfl rfl (dl (by decide)) (by decide) (Nat.le_of_ble_eq_true rfl) ?_
  rintro _ _ ⟨⟨rfl, rfl⟩, L6⟩
  refine r_if_eq (tgt := 25) rfl rfl (fun qc7 => ?_) (fun qc7 => ?_)
  · replace hf := xi_pos hf qc7
    exact XR.forget (L2 := [none, none]) trivial (kb_t_read_25 L6 hf)
  · replace hf := xi_neg hf qc7
    refine XS.go (s_aloadn rfl rfl rfl) ?_
    refine XS.go (s_getr rfl xf11_53 (LY.lt L6 (by decide)) (LY.k0 L6) (by decide) rfl (LY.r0_7 L6)) ?_
    replace hf := xb_some hf
    obtain ⟨r8, e9, hf⟩ := hf
    refine r_callv rfl xvX8_isPartReadable xm11_375 (kf_r_isPartReadable (d := d) L6 e9) (LY.lt L6 (by decide)) (LY.k1255 L6) (by decide) rfl rfl (dl0 (by decide)) (by decide) (Nat.le_of_ble_eq_true rfl) ?_
    rintro _ _ ⟨⟨rfl, rfl⟩, L10⟩
    refine r_if_ne (tgt := 36) rfl rfl (fun qc11 => ?_) (fun qc11 => ?_)
    · replace hf := xi_pos hf qc11
      refine XS.go (s_aloadn rfl rfl rfl) ?_
      refine XS.go (s_getr rfl xf11_53 (LY.lt L10 (by decide)) (LY.k0 L10) (by decide) rfl (LY.r0_7 L10)) ?_
      replace hf := xb_some hf
      obtain ⟨r12, e13, hf⟩ := hf
      refine r_callv rfl xvX8_partValue xm11_380 (kf_r_partValue (d := d) L10 e13) (LY.lt L10 (by decide)) (LY.k1255 L10) (by decide) rfl rfl (dl (by decide)) (by decide) (Nat.le_of_ble_eq_true rfl) ?_
      rintro _ _ ⟨⟨rfl, rfl⟩, L14⟩
      cases hf
      exact XR.retl rfl rfl (fun hret => Or.inl ⟨_, hret, ⟨rfl, ⟨_, rfl, rfl⟩⟩, L14⟩)
    · replace hf := xi_neg hf qc11
      exact XR.forget (L2 := [none, none]) trivial (kb_t_read_25 L10 hf)
def f_t_into (a0 : Int32) (h : XH) : Option (Int32 × XH) := (Option.bind (hr h 0 4) fun b1 => (Option.bind (f_r_locate b1 a0 h) fun r3 => (if r3.1 = 0 then (some ((-1), r3.2)) else (if ¬ (hi r3.2 1255 8) = (-1) then (Option.bind (f_r_enterPart r3.2) fun r8 => (some (r8.1, r8.2))) else (some ((-1), r3.2))))))
set_option maxRecDepth 20000 in
theorem kf_t_into {l : Launch} {G : XG} {d : Nat} {a0 : Int32} {h : XH} {r : Int32 × XH} (L0 : LY h) (hf : f_t_into a0 h = some r) : XC l G xEX11_into (d + 6) [.ref 0, .int a0] h (fun v h2 => (h2 = r.2 ∧ v = some (.int r.1)) ∧ LY r.2) := by
  refine XC.virt xvX11_into (Nat.le_of_ble_eq_true rfl) ?_
  unfold f_t_into at hf
  refine XR.norm (L3 := [some (.ref 0), some (.int a0)]) rfl ?_
  refine XS.go (s_aloadn rfl rfl rfl) ?_
  refine XS.go (s_getr rfl xf11_53 (LY.lt L0 (by decide)) (LY.k0 L0) (by decide) rfl (LY.r0_7 L0)) ?_
  refine XS.go (s_aloadn rfl rfl rfl) ?_
  replace hf := xb_some hf
  obtain ⟨b1, qr2, hf⟩ := hf
  refine XS.go (s_getr rfl xf11_36 (LY.lt L0 (by decide)) (LY.k0 L0) (by decide) rfl qr2) ?_
  refine XS.go (s_iloadn rfl rfl rfl) ?_
  replace hf := xb_some hf
  obtain ⟨r3, e4, hf⟩ := hf
  refine r_callv rfl xvX8_locate xm11_368 (kf_r_locate (d := d) L0 e4) (LY.lt L0 (by decide)) (LY.k1255 L0) (by decide) rfl rfl (dl (by decide)) (by decide) (Nat.le_of_ble_eq_true rfl) ?_
  rintro _ _ ⟨⟨rfl, rfl⟩, L5⟩
  refine r_if_eq (tgt := 26) rfl rfl (fun qc6 => ?_) (fun qc6 => ?_)
  · replace hf := xi_pos hf qc6
    refine XS.go (s_iconst (v := (-1)) rfl rfl) ?_
    cases hf
    exact XR.reti rfl rfl (fun hret => ⟨_, hret, ⟨rfl, rfl⟩, L5⟩)
  · replace hf := xi_neg hf qc6
    refine XS.go (s_aloadn rfl rfl rfl) ?_
    refine XS.go (s_getr rfl xf11_53 (LY.lt L5 (by decide)) (LY.k0 L5) (by decide) rfl (LY.r0_7 L5)) ?_
    refine XS.go (s_getie rfl xf11_372 (LY.lt L5 (by decide)) (LY.k1255 L5) (by decide) rfl rfl) ?_
    refine XS.go (s_iconst (v := (-1)) rfl rfl) ?_
    refine r_icmp_ne (tgt := 28) rfl rfl (fun qc7 => ?_) (fun qc7 => ?_)
    · replace hf := xi_pos hf qc7
      refine XS.go (s_aloadn rfl rfl rfl) ?_
      refine XS.go (s_getr rfl xf11_53 (LY.lt L5 (by decide)) (LY.k0 L5) (by decide) rfl (LY.r0_7 L5)) ?_
      replace hf := xb_some hf
      obtain ⟨r8, e9, hf⟩ := hf
      refine r_callv rfl xvX8_enterPart xm11_384 (kf_r_enterPart (d := d) L5 e9) (LY.lt L5 (by decide)) (LY.k1255 L5) (by decide) rfl rfl (dl (by decide)) (by decide) (Nat.le_of_ble_eq_true rfl) ?_
      rintro _ _ ⟨⟨rfl, rfl⟩, L10⟩
      cases hf
      exact XR.reti rfl rfl (fun hret => ⟨_, hret, ⟨rfl, rfl⟩, L10⟩)
    · replace hf := xi_neg hf qc7
      refine XS.go (s_iconst (v := (-1)) rfl rfl) ?_
      cases hf
      exact XR.reti rfl rfl (fun hret => ⟨_, hret, ⟨rfl, rfl⟩, L5⟩)
def f_t_up (h : XH) : Option (Int32 × XH) := (Option.bind (f_r_leave h) fun r1 => (some (r1.1, r1.2)))
set_option maxRecDepth 20000 in
theorem kf_t_up {l : Launch} {G : XG} {d : Nat} {h : XH} {r : Int32 × XH} (L0 : LY h) (hf : f_t_up h = some r) : XC l G xEX11_up (d + 3) [.ref 0] h (fun v h2 => (h2 = r.2 ∧ v = some (.int r.1)) ∧ LY r.2) := by
  refine XC.virt xvX11_up (Nat.le_of_ble_eq_true rfl) ?_
  unfold f_t_up at hf
  refine XR.norm (L3 := [some (.ref 0)]) rfl ?_
  refine XS.go (s_aloadn rfl rfl rfl) ?_
  refine XS.go (s_getr rfl xf11_53 (LY.lt L0 (by decide)) (LY.k0 L0) (by decide) rfl (LY.r0_7 L0)) ?_
  replace hf := xb_some hf
  obtain ⟨r1, e2, hf⟩ := hf
  refine r_callv rfl xvX8_leave xm11_387 (kf_r_leave (d := d) L0 e2) (LY.lt L0 (by decide)) (LY.k1255 L0) (by decide) rfl rfl (dl (by decide)) (by decide) (Nat.le_of_ble_eq_true rfl) ?_
  rintro _ _ ⟨⟨rfl, rfl⟩, L3⟩
  cases hf
  exact XR.reti rfl rfl (fun hret => ⟨_, hret, ⟨rfl, rfl⟩, L3⟩)
def f_t_write (a0 : Int32) (a1 : Int64) (h : XH) : Option (Int32 × XH) := (Option.bind (hr h 0 4) fun b1 => (Option.bind (f_r_locate b1 a0 h) fun r3 => (if r3.1 = 0 then (some (0, r3.2)) else (if ¬ (hi r3.2 1255 6) = 0 then (some (0, r3.2)) else (if (hi r3.2 1255 8) = (-1) then (some (0, r3.2)) else (Option.bind (f_t_isValue (hi r3.2 1255 7) a1 r3.2) fun r9 => (if ¬ r9.1 = 0 then (Option.bind (f_t_scalarBytes (hi r9.2 1255 7) r9.2) fun r13 => (Option.bind (f_b_number 1256 (hi r9.2 1255 8) r13.1 r13.2) fun r16 => (Option.bind (f_b_putNumber 1256 (hi r9.2 1255 8) r13.1 a1 r16.2) fun r19 => (if hz r19.2 < 1000000 then (Option.bind (hr (hnew r19.2 5 6) 0 4) fun b24 => (if (hz r19.2) < hz (hnew r19.2 5 6) ∧ hk (hnew r19.2 5 6) (hz r19.2) = 5 then (Option.bind (f_j_init (hz r19.2) b24 1256 (hi (hnew r19.2 5 6) 1256 1) (hnew r19.2 5 6)) fun r27 => (if (hz r19.2) < hz r27.2 ∧ hk r27.2 (hz r19.2) = 5 then (Option.bind (f_j_accepts (hz r19.2) r27.2) fun r31 => (if ¬ r31.1 = 0 then (Option.bind (hr r31.2 0 4) fun b35 => (if b35 < hz r31.2 ∧ hk r31.2 b35 = 9 then (Option.bind (f_r_goToRoot (hi r31.2 b35 5) r31.2) fun r38 => (some (1, r38.2))) else none)) else (Option.bind (f_b_putNumber 1256 (hi r9.2 1255 8) r13.1 r16.1 r31.2) fun r41 => (some (0, r41.2))))) else none)) else none)) else none)))) else (some (0, r9.2)))))))))
set_option maxRecDepth 20000 in
theorem kf_t_write {l : Launch} {G : XG} {d : Nat} {a0 : Int32} {a1 : Int64} {h : XH} {r : Int32 × XH} (L0 : LY h) (hf : f_t_write a0 a1 h = some r) : XC l G xEX11_write (d + 202) [.ref 0, .int a0, .long a1] h (fun v h2 => (h2 = r.2 ∧ v = some (.int r.1)) ∧ LY r.2) := by
  refine XC.virt xvX11_write (Nat.le_of_ble_eq_true rfl) ?_
  unfold f_t_write at hf
  refine XR.norm (L3 := [some (.ref 0), some (.int a0), some (.long a1), none, none, none, none, none, none, none]) rfl ?_
  refine XS.go (s_aloadn rfl rfl rfl) ?_
  refine XS.go (s_getr rfl xf11_53 (LY.lt L0 (by decide)) (LY.k0 L0) (by decide) rfl (LY.r0_7 L0)) ?_
  refine XS.go (s_aloadn rfl rfl rfl) ?_
  replace hf := xb_some hf
  obtain ⟨b1, qr2, hf⟩ := hf
  refine XS.go (s_getr rfl xf11_36 (LY.lt L0 (by decide)) (LY.k0 L0) (by decide) rfl qr2) ?_
  refine XS.go (s_iloadn rfl rfl rfl) ?_
  replace hf := xb_some hf
  obtain ⟨r3, e4, hf⟩ := hf
  refine r_callv rfl xvX8_locate xm11_368 (kf_r_locate (d := d) L0 e4) (LY.lt L0 (by decide)) (LY.k1255 L0) (by decide) rfl rfl (dl (by decide)) (by decide) (Nat.le_of_ble_eq_true rfl) ?_
  rintro _ _ ⟨⟨rfl, rfl⟩, L5⟩
  refine r_if_eq (tgt := 50) rfl rfl (fun qc6 => ?_) (fun qc6 => ?_)
  · replace hf := xi_pos hf qc6
    refine XS.go (s_iconst (v := 0) rfl rfl) ?_
    cases hf
    exact XR.retz rfl rfl (by decide) (fun hret => ⟨_, hret, ⟨rfl, rfl⟩, L5⟩)
  · replace hf := xi_neg hf qc6
    refine XS.go (s_aloadn rfl rfl rfl) ?_
    refine XS.go (s_getr rfl xf11_53 (LY.lt L5 (by decide)) (LY.k0 L5) (by decide) rfl (LY.r0_7 L5)) ?_
    refine XS.go (s_getie rfl xf11_390 (LY.lt L5 (by decide)) (LY.k1255 L5) (by decide) rfl rfl) ?_
    refine r_if_ne (tgt := 50) rfl rfl (fun qc7 => ?_) (fun qc7 => ?_)
    · replace hf := xi_pos hf qc7
      refine XS.go (s_iconst (v := 0) rfl rfl) ?_
      cases hf
      exact XR.retz rfl rfl (by decide) (fun hret => ⟨_, hret, ⟨rfl, rfl⟩, L5⟩)
    · replace hf := xi_neg hf qc7
      refine XS.go (s_aloadn rfl rfl rfl) ?_
      refine XS.go (s_getr rfl xf11_53 (LY.lt L5 (by decide)) (LY.k0 L5) (by decide) rfl (LY.r0_7 L5)) ?_
      refine XS.go (s_getie rfl xf11_372 (LY.lt L5 (by decide)) (LY.k1255 L5) (by decide) rfl rfl) ?_
      refine XS.go (s_iconst (v := (-1)) rfl rfl) ?_
      refine r_icmp_eq (tgt := 50) rfl rfl (fun qc8 => ?_) (fun qc8 => ?_)
      · replace hf := xi_pos hf qc8
        refine XS.go (s_iconst (v := 0) rfl rfl) ?_
        cases hf
        exact XR.retz rfl rfl (by decide) (fun hret => ⟨_, hret, ⟨rfl, rfl⟩, L5⟩)
      · replace hf := xi_neg hf qc8
        refine XS.go (s_aloadn rfl rfl rfl) ?_
        refine XS.go (s_getr rfl xf11_53 (LY.lt L5 (by decide)) (LY.k0 L5) (by decide) rfl (LY.r0_7 L5)) ?_
        refine XS.go (s_getie rfl xf11_393 (LY.lt L5 (by decide)) (LY.k1255 L5) (by decide) rfl rfl) ?_
        refine XS.go (s_lloadn rfl rfl rfl) ?_
        replace hf := xb_some hf
        obtain ⟨r9, e10, hf⟩ := hf
        refine r_calls rfl xsX11_isValue xm11_264 (kf_t_isValue (d := d) L5 e10) rfl rfl (dl (by decide)) (by decide) (Nat.le_of_ble_eq_true rfl) ?_
        rintro _ _ ⟨⟨rfl, rfl⟩, L11⟩
        refine r_if_ne (tgt := 52) rfl rfl (fun qc12 => ?_) (fun qc12 => ?_)
        · replace hf := xi_pos hf qc12
          refine XS.go (s_aloadn rfl rfl rfl) ?_
          refine XS.go (s_getr rfl xf11_53 (LY.lt L11 (by decide)) (LY.k0 L11) (by decide) rfl (LY.r0_7 L11)) ?_
          refine XS.go (s_getr rfl xf11_339 (LY.lt L11 (by decide)) (LY.k1255 L11) (by decide) rfl (LY.r1255_0 L11)) ?_
          refine XS.go (XS.lcl (L3 := [some (.ref 0), some (.int a0), some (.long a1), none, some (.ref 1256), none, none, none, none, none]) (s_astore rfl (Nat.le_of_ble_eq_true rfl)) rfl) ?_
          refine XS.go (s_aloadn rfl rfl rfl) ?_
          refine XS.go (s_getr rfl xf11_53 (LY.lt L11 (by decide)) (LY.k0 L11) (by decide) rfl (LY.r0_7 L11)) ?_
          refine XS.go (s_getie rfl xf11_372 (LY.lt L11 (by decide)) (LY.k1255 L11) (by decide) rfl rfl) ?_
          refine XS.go (XS.lcl (L3 := [some (.ref 0), some (.int a0), some (.long a1), none, some (.ref 1256), some (.int (hi r9.2 1255 8)), none, none, none, none]) (s_istore rfl (Nat.le_of_ble_eq_true rfl)) rfl) ?_
          refine XS.go (s_aloadn rfl rfl rfl) ?_
          refine XS.go (s_getr rfl xf11_53 (LY.lt L11 (by decide)) (LY.k0 L11) (by decide) rfl (LY.r0_7 L11)) ?_
          refine XS.go (s_getie rfl xf11_393 (LY.lt L11 (by decide)) (LY.k1255 L11) (by decide) rfl rfl) ?_
          replace hf := xb_some hf
          obtain ⟨r13, e14, hf⟩ := hf
          refine r_calls rfl xsX11_scalarBytes xm11_396 (kf_t_scalarBytes (d := d) L11 e14) rfl rfl (dl0 (by decide)) (by decide) (Nat.le_of_ble_eq_true rfl) ?_
          rintro _ _ ⟨⟨rfl, rfl⟩, L15⟩
          refine XS.go (XS.lcl (L3 := [some (.ref 0), some (.int a0), some (.long a1), none, some (.ref 1256), some (.int (hi r9.2 1255 8)), some (.int r13.1), none, none, none]) (s_istore rfl (Nat.le_of_ble_eq_true rfl)) rfl) ?_
          refine XS.go (s_aload rfl rfl) ?_
          refine XS.go (s_iload rfl rfl) ?_
          refine XS.go (s_iload rfl rfl) ?_
          replace hf := xb_some hf
          obtain ⟨r16, e17, hf⟩ := hf
          refine r_callv rfl xvX1_number xm11_399 (kf_b_number (d := d) L15 e17) (LY.lt L15 (by decide)) (LY.k1256 L15) (by decide) rfl rfl (dl0 (by decide)) (by decide) (Nat.le_of_ble_eq_true rfl) ?_
          rintro _ _ ⟨⟨rfl, rfl⟩, L18⟩
          refine XS.go (XS.lcl (L3 := [some (.ref 0), some (.int a0), some (.long a1), none, some (.ref 1256), some (.int (hi r9.2 1255 8)), some (.int r13.1), some (.long r16.1), none, none]) (s_lstore rfl (Nat.le_of_ble_eq_true rfl)) rfl) ?_
          refine XS.go (s_aload rfl rfl) ?_
          refine XS.go (s_iload rfl rfl) ?_
          refine XS.go (s_iload rfl rfl) ?_
          refine XS.go (s_lloadn rfl rfl rfl) ?_
          replace hf := xb_some hf
          obtain ⟨r19, e20, hf⟩ := hf
          refine r_callv rfl xvX1_putNumber xm11_401 (kf_b_putNumber (d := d) L18 e20) (LY.lt L18 (by decide)) (LY.k1256 L18) (by decide) rfl rfl (dl (by decide)) (by decide) (Nat.le_of_ble_eq_true rfl) ?_
          rintro _ _ ⟨⟨rfl, rfl⟩, L21⟩
          replace hf := xi_none hf
          obtain ⟨qk22, hf⟩ := hf
          have L23 : LY (hnew r19.2 5 6) := LY.new L21 qk22
          refine XS.go (s_new (ci := 5) rfl (lg_3 175 rfl rfl) (by decide) rfl qk22) ?_
          refine XS.go (s_dup rfl rfl) ?_
          refine XS.go (s_aloadn rfl rfl rfl) ?_
          replace hf := xb_some hf
          obtain ⟨b24, qr25, hf⟩ := hf
          refine XS.go (s_getr rfl xf11_36 (LY.lt L23 (by decide)) (LY.k0 L23) (by decide) rfl qr25) ?_
          refine XS.go (s_aload rfl rfl) ?_
          refine XS.go (s_aload rfl rfl) ?_
          refine XS.go (s_getie rfl xf11_73 (LY.lt L23 (by decide)) (LY.k1256 L23) (by decide) rfl rfl) ?_
          replace hf := xi_none hf
          obtain ⟨qk26, hf⟩ := hf
          replace hf := xb_some hf
          obtain ⟨r27, e28, hf⟩ := hf
          refine r_calli rfl xnX5_init rfl xm11_351 (kf_j_init (d := d) L23 e28) rfl rfl (dl (by decide)) (by decide) (Nat.le_of_ble_eq_true rfl) ?_
          rintro _ _ ⟨⟨rfl, rfl⟩, L29⟩
          refine XS.go (XS.lcl (L3 := [some (.ref 0), some (.int a0), some (.long a1), none, some (.ref 1256), some (.int (hi r9.2 1255 8)), some (.int r13.1), some (.long r16.1), none, some (.ref (hz r19.2))]) (s_astore rfl (Nat.le_of_ble_eq_true rfl)) rfl) ?_
          refine XS.go (s_aload rfl rfl) ?_
          replace hf := xi_none hf
          obtain ⟨qk30, hf⟩ := hf
          replace hf := xb_some hf
          obtain ⟨r31, e32, hf⟩ := hf
          refine r_callv rfl xvX5_accepts xm11_354 (kf_j_accepts (d := d) L29 e32) qk30.1 qk30.2 (by decide) rfl rfl (dl (by decide)) (by decide) (Nat.le_of_ble_eq_true rfl) ?_
          rintro _ _ ⟨⟨rfl, rfl⟩, L33⟩
          refine r_if_ne (tgt := 144) rfl rfl (fun qc34 => ?_) (fun qc34 => ?_)
          · replace hf := xi_pos hf qc34
            refine XS.go (s_aloadn rfl rfl rfl) ?_
            refine XS.go (s_getr rfl xf11_53 (LY.lt L33 (by decide)) (LY.k0 L33) (by decide) rfl (LY.r0_7 L33)) ?_
            refine XS.go (s_aloadn rfl rfl rfl) ?_
            replace hf := xb_some hf
            obtain ⟨b35, qr36, hf⟩ := hf
            refine XS.go (s_getr rfl xf11_36 (LY.lt L33 (by decide)) (LY.k0 L33) (by decide) rfl qr36) ?_
            replace hf := xi_none hf
            obtain ⟨qk37, hf⟩ := hf
            refine XS.go (s_getie rfl xf11_131 qk37.1 qk37.2 (by decide) rfl rfl) ?_
            replace hf := xb_some hf
            obtain ⟨r38, e39, hf⟩ := hf
            refine r_callv rfl xvX8_goToRoot xm11_405 (kf_r_goToRoot (d := d) L33 e39) (LY.lt L33 (by decide)) (LY.k1255 L33) (by decide) rfl rfl (dl (by decide)) (by decide) (Nat.le_of_ble_eq_true rfl) ?_
            rintro _ _ ⟨⟨rfl, rfl⟩, L40⟩
            refine XS.go (s_iconst (v := 1) rfl rfl) ?_
            cases hf
            exact XR.retz rfl rfl (by decide) (fun hret => ⟨_, hret, ⟨rfl, rfl⟩, L40⟩)
          · replace hf := xi_neg hf qc34
            refine XS.go (s_aload rfl rfl) ?_
            refine XS.go (s_iload rfl rfl) ?_
            refine XS.go (s_iload rfl rfl) ?_
            refine XS.go (s_lload rfl rfl) ?_
            replace hf := xb_some hf
            obtain ⟨r41, e42, hf⟩ := hf
            refine r_callv rfl xvX1_putNumber xm11_401 (kf_b_putNumber (d := d) L33 e42) (LY.lt L33 (by decide)) (LY.k1256 L33) (by decide) rfl rfl (dl (by decide)) (by decide) (Nat.le_of_ble_eq_true rfl) ?_
            rintro _ _ ⟨⟨rfl, rfl⟩, L43⟩
            refine XS.go (s_iconst (v := 0) rfl rfl) ?_
            cases hf
            exact XR.retz rfl rfl (by decide) (fun hret => ⟨_, hret, ⟨rfl, rfl⟩, L43⟩)
        · replace hf := xi_neg hf qc12
          refine XS.go (s_iconst (v := 0) rfl rfl) ?_
          cases hf
          exact XR.retz rfl rfl (by decide) (fun hret => ⟨_, hret, ⟨rfl, rfl⟩, L11⟩)
def f_t_byteAt (a0 : Int32) (h : XH) : Option (Int32 × XH) := (Option.bind (f_b_octetOrNone 1256 a0 h) fun r1 => (some (r1.1, r1.2)))
set_option maxRecDepth 20000 in
theorem kf_t_byteAt {l : Launch} {G : XG} {d : Nat} {a0 : Int32} {h : XH} {r : Int32 × XH} (L0 : LY h) (hf : f_t_byteAt a0 h = some r) : XC l G xEX11_byteAt (d + 2) [.ref 0, .int a0] h (fun v h2 => (h2 = r.2 ∧ v = some (.int r.1)) ∧ LY r.2) := by
  refine XC.virt xvX11_byteAt (Nat.le_of_ble_eq_true rfl) ?_
  unfold f_t_byteAt at hf
  refine XR.norm (L3 := [some (.ref 0), some (.int a0)]) rfl ?_
  refine XS.go (s_aloadn rfl rfl rfl) ?_
  refine XS.go (s_getr rfl xf11_53 (LY.lt L0 (by decide)) (LY.k0 L0) (by decide) rfl (LY.r0_7 L0)) ?_
  refine XS.go (s_getr rfl xf11_339 (LY.lt L0 (by decide)) (LY.k1255 L0) (by decide) rfl (LY.r1255_0 L0)) ?_
  refine XS.go (s_iloadn rfl rfl rfl) ?_
  replace hf := xb_some hf
  obtain ⟨r1, e2, hf⟩ := hf
  refine r_callv rfl xvX1_octetOrNone xm11_332 (kf_b_octetOrNone (d := d) L0 e2) (LY.lt L0 (by decide)) (LY.k1256 L0) (by decide) rfl rfl (dl (by decide)) (by decide) (Nat.le_of_ble_eq_true rfl) ?_
  rintro _ _ ⟨⟨rfl, rfl⟩, L3⟩
  cases hf
  exact XR.reti rfl rfl (fun hret => ⟨_, hret, ⟨rfl, rfl⟩, L3⟩)
def f_m_thrown (h : XH) : Option (Int32 × XH) := (some ((hi h 1262 0), h))
set_option maxRecDepth 20000 in
theorem kf_m_thrown {l : Launch} {G : XG} {d : Nat} {h : XH} {r : Int32 × XH} (L0 : LY h) (hf : f_m_thrown h = some r) : XC l G xEX12_thrown d [.ref 1262] h (fun v h2 => (h2 = r.2 ∧ v = some (.int r.1)) ∧ LY r.2) := by
  refine XC.virt xvX12_thrown (Nat.le_of_ble_eq_true rfl) ?_
  unfold f_m_thrown at hf
  refine XR.norm (L3 := [some (.ref 1262)]) rfl ?_
  refine XS.go (s_aloadn rfl rfl rfl) ?_
  refine XS.go (s_getie rfl xf12_175 (LY.lt L0 (by decide)) (LY.k1262 L0) (by decide) rfl rfl) ?_
  cases hf
  exact XR.reti rfl rfl (fun hret => ⟨_, hret, ⟨rfl, rfl⟩, L0⟩)
def b_m_feed_73 (K20 : Int32 → Int32 → Int32 → Int32 → Int32 → Int32 → XH → Option (Int32 × XH)) (x1 : Int32) (x2 : Int32) (x3 : Int32) (x4 : Int32) (x5 : Int32) (x6 : Int32) (y0 : Int32) (h : XH) : Option (Int32 × XH) := (if 0 ≤ ((hi h 1262 2) + x6) ∧ ((hi h 1262 2) + x6) < nI 4000 then (K20 x1 x2 x3 x4 x5 (x6 + 1) (hsi h 1263 (Int32.toNatClampNeg ((hi h 1262 2) + x6)) ((y0 >>> ((8 * (3 - (x6 - x6 / 4 * 4))) &&& 31)) &&& 255))) else none)
set_option maxRecDepth 20000 in
theorem kb_m_feed_73 {l : Launch} {G : XG} {d : Nat} {K20 : Int32 → Int32 → Int32 → Int32 → Int32 → Int32 → XH → Option (Int32 × XH)} {x1 : Int32} {x2 : Int32} {x3 : Int32} {x4 : Int32} {x5 : Int32} {x6 : Int32} {y0 : Int32} {h : XH} {r : Int32 × XH} (hK20 : ∀ (x1 : Int32) (x2 : Int32) (x3 : Int32) (x4 : Int32) (x5 : Int32) (x6 : Int32) (h : XH), LY h → K20 x1 x2 x3 x4 x5 x6 h = some r → XR l G xEX12_feed d (20, [some (.ref 1262), some (.int x1), some (.int x2), some (.int x3), some (.int x4), some (.int x5), some (.int x6), none], [], h) (fun C => ∃ v, xRet xEX12_feed C v ∧ (C.2.2.2 = r.2 ∧ v = some (.int r.1)) ∧ LY r.2)) (L0 : LY h) (hf : b_m_feed_73 K20 x1 x2 x3 x4 x5 x6 y0 h = some r) : XR l G xEX12_feed d (73, [some (.ref 1262), some (.int x1), some (.int x2), some (.int x3), some (.int x4), some (.int x5), some (.int x6), none], [(.int y0)], h) (fun C => ∃ v, xRet xEX12_feed C v ∧ (C.2.2.2 = r.2 ∧ v = some (.int r.1)) ∧ LY r.2) := by
  unfold b_m_feed_73 at hf
  refine XS.go (XS.lcl (L3 := [some (.ref 1262), some (.int x1), some (.int x2), some (.int x3), some (.int x4), some (.int x5), some (.int x6), some (.int y0)]) (s_istore rfl (Nat.le_of_ble_eq_true rfl)) rfl) ?_
  refine XS.go (s_aloadn rfl rfl rfl) ?_
  refine XS.go (s_getr rfl xf12_9 (LY.lt L0 (by decide)) (LY.k1262 L0) (by decide) rfl (LY.r1262_1 L0)) ?_
  refine XS.go (s_aloadn rfl rfl rfl) ?_
  refine XS.go (s_getie rfl xf12_178 (LY.lt L0 (by decide)) (LY.k1262 L0) (by decide) rfl rfl) ?_
  refine XS.go (s_iload rfl rfl) ?_
  refine XS.go (s_iadd rfl) ?_
  refine XS.go (s_iload rfl rfl) ?_
  refine XS.go (s_bipush (v := 8) rfl rfl) ?_
  refine XS.go (s_iconst (v := 3) rfl rfl) ?_
  refine XS.go (s_iload rfl rfl) ?_
  refine XS.go (s_iconst (v := 4) rfl rfl) ?_
  refine XS.go (s_irem (by decide) rfl) ?_
  refine XS.go (s_isub rfl) ?_
  refine XS.go (s_imul rfl) ?_
  refine XS.go (s_ishr rfl) ?_
  refine XS.go (s_sipush (v := 255) rfl rfl) ?_
  refine XS.go (s_iand rfl) ?_
  replace hf := xi_none hf
  obtain ⟨qk1, hf⟩ := hf
  refine XS.go (s_iast rfl (LY.lt L0 (by decide)) (LY.k1263 L0) (inLit (LY.n1263 L0) qk1.1 qk1.2 (by decide))) ?_
  refine XS.go (XS.lcl (L3 := [some (.ref 1262), some (.int x1), some (.int x2), some (.int x3), some (.int x4), some (.int x5), some (.int (x6 + 1)), some (.int y0)]) (s_inc rfl rfl (Nat.le_of_ble_eq_true rfl)) rfl) ?_
  refine XS.go (s_goto (tgt := 20) rfl rfl) ?_
  exact XR.forget (L2 := [some (.ref 1262), some (.int x1), some (.int x2), some (.int x3), some (.int x4), some (.int x5), some (.int (x6 + 1)), none]) ⟨rfl, ⟨rfl, ⟨rfl, ⟨rfl, ⟨rfl, ⟨rfl, ⟨rfl, trivial⟩⟩⟩⟩⟩⟩⟩ (hK20 x1 x2 x3 x4 x5 (x6 + 1) _ (by simp only [LY_si, LY_sj]; exact L0) hf)
def s_m_feed_20 (K20 : Int32 → Int32 → Int32 → Int32 → Int32 → Int32 → XH → Option (Int32 × XH)) (x1 : Int32) (x2 : Int32) (x3 : Int32) (x4 : Int32) (x5 : Int32) (x6 : Int32) (h : XH) : Option (Int32 × XH) := (if 20 ≤ x6 then (some (((hi h 1262 2) + 20), (hsi h 1262 2 ((hi h 1262 2) + 20)))) else (if 4 ≤ x6 then (if 8 ≤ x6 then (if 12 ≤ x6 then (if 16 ≤ x6 then (b_m_feed_73 K20 x1 x2 x3 x4 x5 x6 x5 h) else (b_m_feed_73 K20 x1 x2 x3 x4 x5 x6 x4 h)) else (b_m_feed_73 K20 x1 x2 x3 x4 x5 x6 x3 h)) else (b_m_feed_73 K20 x1 x2 x3 x4 x5 x6 x2 h)) else (b_m_feed_73 K20 x1 x2 x3 x4 x5 x6 x1 h)))
set_option maxRecDepth 20000 in
theorem ks_m_feed_20 {l : Launch} {G : XG} {d : Nat} {K20 : Int32 → Int32 → Int32 → Int32 → Int32 → Int32 → XH → Option (Int32 × XH)} {x1 : Int32} {x2 : Int32} {x3 : Int32} {x4 : Int32} {x5 : Int32} {x6 : Int32} {h : XH} {r : Int32 × XH} (hK20 : ∀ (x1 : Int32) (x2 : Int32) (x3 : Int32) (x4 : Int32) (x5 : Int32) (x6 : Int32) (h : XH), LY h → K20 x1 x2 x3 x4 x5 x6 h = some r → XR l G xEX12_feed d (20, [some (.ref 1262), some (.int x1), some (.int x2), some (.int x3), some (.int x4), some (.int x5), some (.int x6), none], [], h) (fun C => ∃ v, xRet xEX12_feed C v ∧ (C.2.2.2 = r.2 ∧ v = some (.int r.1)) ∧ LY r.2)) (L0 : LY h) (hf : s_m_feed_20 K20 x1 x2 x3 x4 x5 x6 h = some r) : XR l G xEX12_feed d (20, [some (.ref 1262), some (.int x1), some (.int x2), some (.int x3), some (.int x4), some (.int x5), some (.int x6), none], [], h) (fun C => ∃ v, xRet xEX12_feed C v ∧ (C.2.2.2 = r.2 ∧ v = some (.int r.1)) ∧ LY r.2) := by
  unfold s_m_feed_20 at hf
  refine XS.go (s_iload rfl rfl) ?_
  refine XS.go (s_bipush (v := 20) rfl rfl) ?_
  refine r_icmp_ge (tgt := 109) rfl rfl (fun qc2 => ?_) (fun qc2 => ?_)
  · replace hf := xi_pos hf qc2
    refine XS.go (s_aloadn rfl rfl rfl) ?_
    refine XS.go (s_dup rfl rfl) ?_
    refine XS.go (s_getie rfl xf12_178 (LY.lt L0 (by decide)) (LY.k1262 L0) (by decide) rfl rfl) ?_
    refine XS.go (s_bipush (v := 20) rfl rfl) ?_
    refine XS.go (s_iadd rfl) ?_
    refine XS.go (s_puti rfl xf12_178 (LY.lt L0 (by decide)) (LY.k1262 L0) (by decide) rfl (Or.inl rfl)) ?_
    refine XS.go (s_aloadn rfl rfl rfl) ?_
    refine XS.go (s_getie rfl xf12_178 (LY.lt (by simp only [LY_si, LY_sj]; exact L0) (by decide)) (LY.k1262 (by simp only [LY_si, LY_sj]; exact L0)) (by decide) rfl hi_hsi_eq) ?_
    cases hf
    exact XR.reti rfl rfl (fun hret => ⟨_, hret, ⟨rfl, rfl⟩, (by simp only [LY_si, LY_sj]; exact L0)⟩)
  · replace hf := xi_neg hf qc2
    refine XS.go (s_iload rfl rfl) ?_
    refine XS.go (s_iconst (v := 4) rfl rfl) ?_
    refine r_icmp_ge (tgt := 37) rfl rfl (fun qc3 => ?_) (fun qc3 => ?_)
    · replace hf := xi_pos hf qc3
      refine XS.go (s_iload rfl rfl) ?_
      refine XS.go (s_bipush (v := 8) rfl rfl) ?_
      refine r_icmp_ge (tgt := 48) rfl rfl (fun qc4 => ?_) (fun qc4 => ?_)
      · replace hf := xi_pos hf qc4
        refine XS.go (s_iload rfl rfl) ?_
        refine XS.go (s_bipush (v := 12) rfl rfl) ?_
        refine r_icmp_ge (tgt := 59) rfl rfl (fun qc5 => ?_) (fun qc5 => ?_)
        · replace hf := xi_pos hf qc5
          refine XS.go (s_iload rfl rfl) ?_
          refine XS.go (s_bipush (v := 16) rfl rfl) ?_
          refine r_icmp_ge (tgt := 71) rfl rfl (fun qc6 => ?_) (fun qc6 => ?_)
          · replace hf := xi_pos hf qc6
            refine XS.go (s_iload rfl rfl) ?_
            exact XR.forget (L2 := [some (.ref 1262), some (.int x1), some (.int x2), some (.int x3), some (.int x4), some (.int x5), some (.int x6), none]) ⟨rfl, ⟨rfl, ⟨rfl, ⟨rfl, ⟨rfl, ⟨rfl, ⟨rfl, trivial⟩⟩⟩⟩⟩⟩⟩ (kb_m_feed_73 hK20 L0 hf)
          · replace hf := xi_neg hf qc6
            refine XS.go (s_iload rfl rfl) ?_
            refine XS.go (s_goto (tgt := 73) rfl rfl) ?_
            exact XR.forget (L2 := [some (.ref 1262), some (.int x1), some (.int x2), some (.int x3), some (.int x4), some (.int x5), some (.int x6), none]) ⟨rfl, ⟨rfl, ⟨rfl, ⟨rfl, ⟨rfl, ⟨rfl, ⟨rfl, trivial⟩⟩⟩⟩⟩⟩⟩ (kb_m_feed_73 hK20 L0 hf)
        · replace hf := xi_neg hf qc5
          refine XS.go (s_iloadn rfl rfl rfl) ?_
          refine XS.go (s_goto (tgt := 73) rfl rfl) ?_
          exact XR.forget (L2 := [some (.ref 1262), some (.int x1), some (.int x2), some (.int x3), some (.int x4), some (.int x5), some (.int x6), none]) ⟨rfl, ⟨rfl, ⟨rfl, ⟨rfl, ⟨rfl, ⟨rfl, ⟨rfl, trivial⟩⟩⟩⟩⟩⟩⟩ (kb_m_feed_73 hK20 L0 hf)
      · replace hf := xi_neg hf qc4
        refine XS.go (s_iloadn rfl rfl rfl) ?_
        refine XS.go (s_goto (tgt := 73) rfl rfl) ?_
        exact XR.forget (L2 := [some (.ref 1262), some (.int x1), some (.int x2), some (.int x3), some (.int x4), some (.int x5), some (.int x6), none]) ⟨rfl, ⟨rfl, ⟨rfl, ⟨rfl, ⟨rfl, ⟨rfl, ⟨rfl, trivial⟩⟩⟩⟩⟩⟩⟩ (kb_m_feed_73 hK20 L0 hf)
    · replace hf := xi_neg hf qc3
      refine XS.go (s_iloadn rfl rfl rfl) ?_
      refine XS.go (s_goto (tgt := 73) rfl rfl) ?_
      exact XR.forget (L2 := [some (.ref 1262), some (.int x1), some (.int x2), some (.int x3), some (.int x4), some (.int x5), some (.int x6), none]) ⟨rfl, ⟨rfl, ⟨rfl, ⟨rfl, ⟨rfl, ⟨rfl, ⟨rfl, trivial⟩⟩⟩⟩⟩⟩⟩ (kb_m_feed_73 hK20 L0 hf)
def b_m_feed_20 : Nat → Int32 → Int32 → Int32 → Int32 → Int32 → Int32 → XH → Option (Int32 × XH)
  | 0, _, _, _, _, _, _, _ => none
  | n + 1, x1, x2, x3, x4, x5, x6, h => s_m_feed_20 (b_m_feed_20 n) x1 x2 x3 x4 x5 x6 h
theorem kb_m_feed_20 {l : Launch} {G : XG} {d : Nat} {n : Nat} {x1 : Int32} {x2 : Int32} {x3 : Int32} {x4 : Int32} {x5 : Int32} {x6 : Int32} {h : XH} {r : Int32 × XH} (L0 : LY h) (hf : b_m_feed_20 n x1 x2 x3 x4 x5 x6 h = some r) : XR l G xEX12_feed d (20, [some (.ref 1262), some (.int x1), some (.int x2), some (.int x3), some (.int x4), some (.int x5), some (.int x6), none], [], h) (fun C => ∃ v, xRet xEX12_feed C v ∧ (C.2.2.2 = r.2 ∧ v = some (.int r.1)) ∧ LY r.2) := by
  induction n generalizing x1 x2 x3 x4 x5 x6 h with
  | zero => cases hf
  | succ n ih => exact ks_m_feed_20 (fun x1 x2 x3 x4 x5 x6 h L0 hf => ih (h := h) (x1 := x1) (x2 := x2) (x3 := x3) (x4 := x4) (x5 := x5) (x6 := x6) L0 hf) L0 hf
def f_m_feed (a0 : Int32) (a1 : Int32) (a2 : Int32) (a3 : Int32) (a4 : Int32) (h : XH) : Option (Int32 × XH) := (if (hi h 1262 2) ≤ 3980 then (b_m_feed_20 100000 a0 a1 a2 a3 a4 0 (hsi h 1262 0 0)) else (some ((-1), (hsi h 1262 0 0))))
set_option maxRecDepth 20000 in
theorem kf_m_feed {l : Launch} {G : XG} {d : Nat} {a0 : Int32} {a1 : Int32} {a2 : Int32} {a3 : Int32} {a4 : Int32} {h : XH} {r : Int32 × XH} (L0 : LY h) (hf : f_m_feed a0 a1 a2 a3 a4 h = some r) : XC l G xEX12_feed d [.ref 1262, .int a0, .int a1, .int a2, .int a3, .int a4] h (fun v h2 => (h2 = r.2 ∧ v = some (.int r.1)) ∧ LY r.2) := by
  refine XC.virt xvX12_feed (Nat.le_of_ble_eq_true rfl) ?_
  unfold f_m_feed at hf
  refine XR.norm (L3 := [some (.ref 1262), some (.int a0), some (.int a1), some (.int a2), some (.int a3), some (.int a4), none, none]) rfl ?_
  refine XS.go (s_aloadn rfl rfl rfl) ?_
  refine XS.go (s_iconst (v := 0) rfl rfl) ?_
  refine XS.go (s_puti rfl xf12_175 (LY.lt L0 (by decide)) (LY.k1262 L0) (by decide) rfl (Or.inl rfl)) ?_
  refine XS.go (s_aloadn rfl rfl rfl) ?_
  refine XS.go (s_getie rfl xf12_178 (LY.lt (by simp only [LY_si, LY_sj]; exact L0) (by decide)) (LY.k1262 (by simp only [LY_si, LY_sj]; exact L0)) (by decide) rfl (hi_hsi_nk (by decide))) ?_
  refine XS.go (s_sipush (v := 3980) rfl rfl) ?_
  refine r_icmp_le (tgt := 17) rfl rfl (fun qc7 => ?_) (fun qc7 => ?_)
  · replace hf := xi_pos hf qc7
    refine XS.go (s_iconst (v := 0) rfl rfl) ?_
    refine XS.go (XS.lcl (L3 := [some (.ref 1262), some (.int a0), some (.int a1), some (.int a2), some (.int a3), some (.int a4), some (.int 0), none]) (s_istore rfl (Nat.le_of_ble_eq_true rfl)) rfl) ?_
    exact XR.forget (L2 := [some (.ref 1262), some (.int a0), some (.int a1), some (.int a2), some (.int a3), some (.int a4), some (.int 0), none]) ⟨rfl, ⟨rfl, ⟨rfl, ⟨rfl, ⟨rfl, ⟨rfl, ⟨rfl, trivial⟩⟩⟩⟩⟩⟩⟩ (kb_m_feed_20 (by simp only [LY_si, LY_sj]; exact L0) hf)
  · replace hf := xi_neg hf qc7
    refine XS.go (s_iconst (v := (-1)) rfl rfl) ?_
    cases hf
    exact XR.reti rfl rfl (fun hret => ⟨_, hret, ⟨rfl, rfl⟩, (by simp only [LY_si, LY_sj]; exact L0)⟩)
def f_m_end (a0 : Int32) (h : XH) : Option (Int32 × XH) := (if a0 < 0 then (some (0, (hsi h 1262 0 0))) else (if a0 ≤ (hi h 1262 2) then (some (1, (hsi (hsi h 1262 0 0) 1262 2 a0))) else (some (0, (hsi h 1262 0 0)))))
set_option maxRecDepth 20000 in
theorem kf_m_end {l : Launch} {G : XG} {d : Nat} {a0 : Int32} {h : XH} {r : Int32 × XH} (L0 : LY h) (hf : f_m_end a0 h = some r) : XC l G xEX12_end d [.ref 1262, .int a0] h (fun v h2 => (h2 = r.2 ∧ v = some (.int r.1)) ∧ LY r.2) := by
  refine XC.virt xvX12_end (Nat.le_of_ble_eq_true rfl) ?_
  unfold f_m_end at hf
  refine XR.norm (L3 := [some (.ref 1262), some (.int a0)]) rfl ?_
  refine XS.go (s_aloadn rfl rfl rfl) ?_
  refine XS.go (s_iconst (v := 0) rfl rfl) ?_
  refine XS.go (s_puti rfl xf12_175 (LY.lt L0 (by decide)) (LY.k1262 L0) (by decide) rfl (Or.inl rfl)) ?_
  refine XS.go (s_iloadn rfl rfl rfl) ?_
  refine r_if_lt (tgt := 17) rfl rfl (fun qc1 => ?_) (fun qc1 => ?_)
  · replace hf := xi_pos hf qc1
    refine XS.go (s_iconst (v := 0) rfl rfl) ?_
    cases hf
    exact XR.retz rfl rfl (by decide) (fun hret => ⟨_, hret, ⟨rfl, rfl⟩, (by simp only [LY_si, LY_sj]; exact L0)⟩)
  · replace hf := xi_neg hf qc1
    refine XS.go (s_iloadn rfl rfl rfl) ?_
    refine XS.go (s_aloadn rfl rfl rfl) ?_
    refine XS.go (s_getie rfl xf12_178 (LY.lt (by simp only [LY_si, LY_sj]; exact L0) (by decide)) (LY.k1262 (by simp only [LY_si, LY_sj]; exact L0)) (by decide) rfl (hi_hsi_nk (by decide))) ?_
    refine r_icmp_le (tgt := 19) rfl rfl (fun qc2 => ?_) (fun qc2 => ?_)
    · replace hf := xi_pos hf qc2
      refine XS.go (s_aloadn rfl rfl rfl) ?_
      refine XS.go (s_iloadn rfl rfl rfl) ?_
      refine XS.go (s_puti rfl xf12_178 (LY.lt (by simp only [LY_si, LY_sj]; exact L0) (by decide)) (LY.k1262 (by simp only [LY_si, LY_sj]; exact L0)) (by decide) rfl (Or.inl rfl)) ?_
      refine XS.go (s_iconst (v := 1) rfl rfl) ?_
      cases hf
      exact XR.retz rfl rfl (by decide) (fun hret => ⟨_, hret, ⟨rfl, rfl⟩, (by simp only [LY_si, LY_sj]; exact L0)⟩)
    · replace hf := xi_neg hf qc2
      refine XS.go (s_iconst (v := 0) rfl rfl) ?_
      cases hf
      exact XR.retz rfl rfl (by decide) (fun hret => ⟨_, hret, ⟨rfl, rfl⟩, (by simp only [LY_si, LY_sj]; exact L0)⟩)
def f_m_signAt (a0 : Int32) (h : XH) : Option (Int32 × XH) := (if (hi h 1262 5) ≤ a0 then (some ((-1), h)) else (if 0 ≤ a0 ∧ a0 < nI 4000 then (some ((hi h 1264 (Int32.toNatClampNeg a0)), h)) else none))
set_option maxRecDepth 20000 in
theorem kf_m_signAt {l : Launch} {G : XG} {d : Nat} {a0 : Int32} {h : XH} {r : Int32 × XH} (L0 : LY h) (hf : f_m_signAt a0 h = some r) : XC l G xEX12_signAt d [.ref 1262, .int a0] h (fun v h2 => (h2 = r.2 ∧ v = some (.int r.1)) ∧ LY r.2) := by
  refine XC.virt xvX12_signAt (Nat.le_of_ble_eq_true rfl) ?_
  unfold f_m_signAt at hf
  refine XR.norm (L3 := [some (.ref 1262), some (.int a0)]) rfl ?_
  refine XS.go (s_iloadn rfl rfl rfl) ?_
  refine XS.go (s_aloadn rfl rfl rfl) ?_
  refine XS.go (s_getie rfl xf12_181 (LY.lt L0 (by decide)) (LY.k1262 L0) (by decide) rfl rfl) ?_
  refine r_icmp_ge (tgt := 17) rfl rfl (fun qc1 => ?_) (fun qc1 => ?_)
  · replace hf := xi_pos hf qc1
    refine XS.go (s_iconst (v := (-1)) rfl rfl) ?_
    cases hf
    exact XR.reti rfl rfl (fun hret => ⟨_, hret, ⟨rfl, rfl⟩, L0⟩)
  · replace hf := xi_neg hf qc1
    refine XS.go (s_aloadn rfl rfl rfl) ?_
    refine XS.go (s_getr rfl xf12_13 (LY.lt L0 (by decide)) (LY.k1262 L0) (by decide) rfl (LY.r1262_3 L0)) ?_
    refine XS.go (s_iloadn rfl rfl rfl) ?_
    replace hf := xi_none hf
    obtain ⟨qk2, hf⟩ := hf
    refine XS.go (s_ialde rfl (LY.lt L0 (by decide)) (LY.k1264 L0) (inLit (LY.n1264 L0) qk2.1 qk2.2 (by decide)) rfl) ?_
    refine XS.go (s_goto (tgt := 18) rfl rfl) ?_
    cases hf
    exact XR.reti rfl rfl (fun hret => ⟨_, hret, ⟨rfl, rfl⟩, L0⟩)
def f_m_isDigit (a0 : Int32) (h : XH) : Option (Int32 × XH) := (if a0 < 48 then (some (0, h)) else (if 57 < a0 then (some (0, h)) else (some (1, h))))
set_option maxRecDepth 20000 in
theorem kf_m_isDigit {l : Launch} {G : XG} {d : Nat} {a0 : Int32} {h : XH} {r : Int32 × XH} (L0 : LY h) (hf : f_m_isDigit a0 h = some r) : XC l G xEX12_isDigit d [.int a0] h (fun v h2 => (h2 = r.2 ∧ v = some (.int r.1)) ∧ LY r.2) := by
  refine XC.stat xsX12_isDigit (Nat.le_of_ble_eq_true rfl) ?_
  unfold f_m_isDigit at hf
  refine XR.norm (L3 := [some (.int a0)]) rfl ?_
  refine XS.go (s_iloadn rfl rfl rfl) ?_
  refine XS.go (s_bipush (v := 48) rfl rfl) ?_
  refine r_icmp_lt (tgt := 16) rfl rfl (fun qc1 => ?_) (fun qc1 => ?_)
  · replace hf := xi_pos hf qc1
    refine XS.go (s_iconst (v := 0) rfl rfl) ?_
    cases hf
    exact XR.retz rfl rfl (by decide) (fun hret => ⟨_, hret, ⟨rfl, rfl⟩, L0⟩)
  · replace hf := xi_neg hf qc1
    refine XS.go (s_iloadn rfl rfl rfl) ?_
    refine XS.go (s_bipush (v := 57) rfl rfl) ?_
    refine r_icmp_gt (tgt := 16) rfl rfl (fun qc2 => ?_) (fun qc2 => ?_)
    · replace hf := xi_pos hf qc2
      refine XS.go (s_iconst (v := 0) rfl rfl) ?_
      cases hf
      exact XR.retz rfl rfl (by decide) (fun hret => ⟨_, hret, ⟨rfl, rfl⟩, L0⟩)
    · replace hf := xi_neg hf qc2
      refine XS.go (s_iconst (v := 1) rfl rfl) ?_
      refine XS.go (s_goto (tgt := 17) rfl rfl) ?_
      cases hf
      exact XR.retz rfl rfl (by decide) (fun hret => ⟨_, hret, ⟨rfl, rfl⟩, L0⟩)
def b_m_isLetter_30 (h : XH) : Option (Int32 × XH) := (some (1, h))
set_option maxRecDepth 20000 in
theorem kb_m_isLetter_30 {l : Launch} {G : XG} {d : Nat} {h : XH} {r : Int32 × XH} (L0 : LY h) (hf : b_m_isLetter_30 h = some r) : XR l G xEX12_isLetter d (30, [none], [], h) (fun C => ∃ v, xRet xEX12_isLetter C v ∧ (C.2.2.2 = r.2 ∧ v = some (.int r.1)) ∧ LY r.2) := by
  unfold b_m_isLetter_30 at hf
  refine XS.go (s_iconst (v := 1) rfl rfl) ?_
  refine XS.go (s_goto (tgt := 35) rfl rfl) ?_
  cases hf
  exact XR.retz rfl rfl (by decide) (fun hret => ⟨_, hret, ⟨rfl, rfl⟩, L0⟩)
def b_m_isLetter_24 (x0 : Int32) (h : XH) : Option (Int32 × XH) := (if ¬ x0 = 95 then (some (0, h)) else (b_m_isLetter_30 h))
set_option maxRecDepth 20000 in
theorem kb_m_isLetter_24 {l : Launch} {G : XG} {d : Nat} {x0 : Int32} {h : XH} {r : Int32 × XH} (L0 : LY h) (hf : b_m_isLetter_24 x0 h = some r) : XR l G xEX12_isLetter d (24, [some (.int x0)], [], h) (fun C => ∃ v, xRet xEX12_isLetter C v ∧ (C.2.2.2 = r.2 ∧ v = some (.int r.1)) ∧ LY r.2) := by
  unfold b_m_isLetter_24 at hf
  refine XS.go (s_iloadn rfl rfl rfl) ?_
  refine XS.go (s_bipush (v := 95) rfl rfl) ?_
  refine r_icmp_ne (tgt := 34) rfl rfl (fun qc1 => ?_) (fun qc1 => ?_)
  · replace hf := xi_pos hf qc1
    refine XS.go (s_iconst (v := 0) rfl rfl) ?_
    cases hf
    exact XR.retz rfl rfl (by decide) (fun hret => ⟨_, hret, ⟨rfl, rfl⟩, L0⟩)
  · replace hf := xi_neg hf qc1
    exact XR.forget (L2 := [none]) trivial (kb_m_isLetter_30 L0 hf)
def b_m_isLetter_12 (x0 : Int32) (h : XH) : Option (Int32 × XH) := (if x0 < 65 then (b_m_isLetter_24 x0 h) else (if x0 ≤ 90 then (b_m_isLetter_30 h) else (b_m_isLetter_24 x0 h)))
set_option maxRecDepth 20000 in
theorem kb_m_isLetter_12 {l : Launch} {G : XG} {d : Nat} {x0 : Int32} {h : XH} {r : Int32 × XH} (L0 : LY h) (hf : b_m_isLetter_12 x0 h = some r) : XR l G xEX12_isLetter d (12, [some (.int x0)], [], h) (fun C => ∃ v, xRet xEX12_isLetter C v ∧ (C.2.2.2 = r.2 ∧ v = some (.int r.1)) ∧ LY r.2) := by
  unfold b_m_isLetter_12 at hf
  refine XS.go (s_iloadn rfl rfl rfl) ?_
  refine XS.go (s_bipush (v := 65) rfl rfl) ?_
  refine r_icmp_lt (tgt := 24) rfl rfl (fun qc2 => ?_) (fun qc2 => ?_)
  · replace hf := xi_pos hf qc2
    exact XR.forget (L2 := [some (.int x0)]) ⟨rfl, trivial⟩ (kb_m_isLetter_24 L0 hf)
  · replace hf := xi_neg hf qc2
    refine XS.go (s_iloadn rfl rfl rfl) ?_
    refine XS.go (s_bipush (v := 90) rfl rfl) ?_
    refine r_icmp_le (tgt := 30) rfl rfl (fun qc3 => ?_) (fun qc3 => ?_)
    · replace hf := xi_pos hf qc3
      exact XR.forget (L2 := [none]) trivial (kb_m_isLetter_30 L0 hf)
    · replace hf := xi_neg hf qc3
      exact XR.forget (L2 := [some (.int x0)]) ⟨rfl, trivial⟩ (kb_m_isLetter_24 L0 hf)
def f_m_isLetter (a0 : Int32) (h : XH) : Option (Int32 × XH) := (if a0 < 97 then (b_m_isLetter_12 a0 h) else (if a0 ≤ 122 then (b_m_isLetter_30 h) else (b_m_isLetter_12 a0 h)))
set_option maxRecDepth 20000 in
theorem kf_m_isLetter {l : Launch} {G : XG} {d : Nat} {a0 : Int32} {h : XH} {r : Int32 × XH} (L0 : LY h) (hf : f_m_isLetter a0 h = some r) : XC l G xEX12_isLetter d [.int a0] h (fun v h2 => (h2 = r.2 ∧ v = some (.int r.1)) ∧ LY r.2) := by
  refine XC.stat xsX12_isLetter (Nat.le_of_ble_eq_true rfl) ?_
  unfold f_m_isLetter at hf
  refine XR.norm (L3 := [some (.int a0)]) rfl ?_
  refine XS.go (s_iloadn rfl rfl rfl) ?_
  refine XS.go (s_bipush (v := 97) rfl rfl) ?_
  refine r_icmp_lt (tgt := 12) rfl rfl (fun qc4 => ?_) (fun qc4 => ?_)
  · replace hf := xi_pos hf qc4
    exact XR.forget (L2 := [some (.int a0)]) ⟨rfl, trivial⟩ (kb_m_isLetter_12 L0 hf)
  · replace hf := xi_neg hf qc4
    refine XS.go (s_iloadn rfl rfl rfl) ?_
    refine XS.go (s_bipush (v := 122) rfl rfl) ?_
    refine r_icmp_le (tgt := 30) rfl rfl (fun qc5 => ?_) (fun qc5 => ?_)
    · replace hf := xi_pos hf qc5
      exact XR.forget (L2 := [none]) trivial (kb_m_isLetter_30 L0 hf)
    · replace hf := xi_neg hf qc5
      exact XR.forget (L2 := [some (.int a0)]) ⟨rfl, trivial⟩ (kb_m_isLetter_12 L0 hf)
def f_m_lexeme (a0 : Int32) (a1 : Int32) (a2 : Int32) (a3 : Int32) (h : XH) : Option (Unit × XH) := (if 0 ≤ (hi h 1262 12) ∧ (hi h 1262 12) < nI 4001 then (some ((), (hsi (hsi (hsi (hsi (hsi h 1266 (Int32.toNatClampNeg (hi h 1262 12)) a0) 1267 (Int32.toNatClampNeg (hi h 1262 12)) a1) 1268 (Int32.toNatClampNeg (hi h 1262 12)) a2) 1269 (Int32.toNatClampNeg (hi h 1262 12)) a3) 1262 12 ((hi h 1262 12) + 1)))) else none)
set_option maxRecDepth 20000 in
theorem kf_m_lexeme {l : Launch} {G : XG} {d : Nat} {a0 : Int32} {a1 : Int32} {a2 : Int32} {a3 : Int32} {h : XH} {r : Unit × XH} (L0 : LY h) (hf : f_m_lexeme a0 a1 a2 a3 h = some r) : XC l G xEX12_lexeme d [.ref 1262, .int a0, .int a1, .int a2, .int a3] h (fun v h2 => (h2 = r.2 ∧ v = none) ∧ LY r.2) := by
  refine XC.virt xvX12_lexeme (Nat.le_of_ble_eq_true rfl) ?_
  unfold f_m_lexeme at hf
  refine XR.norm (L3 := [some (.ref 1262), some (.int a0), some (.int a1), some (.int a2), some (.int a3)]) rfl ?_
  refine XS.go (s_aloadn rfl rfl rfl) ?_
  refine XS.go (s_getr rfl xf12_19 (LY.lt L0 (by decide)) (LY.k1262 L0) (by decide) rfl (LY.r1262_8 L0)) ?_
  refine XS.go (s_aloadn rfl rfl rfl) ?_
  refine XS.go (s_getie rfl xf12_184 (LY.lt L0 (by decide)) (LY.k1262 L0) (by decide) rfl rfl) ?_
  refine XS.go (s_iloadn rfl rfl rfl) ?_
  replace hf := xi_none hf
  obtain ⟨qk1, hf⟩ := hf
  refine XS.go (s_iast rfl (LY.lt L0 (by decide)) (LY.k1266 L0) (inLit (LY.n1266 L0) qk1.1 qk1.2 (by decide))) ?_
  refine XS.go (s_aloadn rfl rfl rfl) ?_
  refine XS.go (s_getr rfl xf12_22 (LY.lt (by simp only [LY_si, LY_sj]; exact L0) (by decide)) (LY.k1262 (by simp only [LY_si, LY_sj]; exact L0)) (by decide) rfl (LY.r1262_9 (by simp only [LY_si, LY_sj]; exact L0))) ?_
  refine XS.go (s_aloadn rfl rfl rfl) ?_
  refine XS.go (s_getie rfl xf12_184 (LY.lt (by simp only [LY_si, LY_sj]; exact L0) (by decide)) (LY.k1262 (by simp only [LY_si, LY_sj]; exact L0)) (by decide) rfl (hi_hsi_na (by decide))) ?_
  refine XS.go (s_iloadn rfl rfl rfl) ?_
  refine XS.go (s_iast rfl (LY.lt (by simp only [LY_si, LY_sj]; exact L0) (by decide)) (LY.k1267 (by simp only [LY_si, LY_sj]; exact L0)) (inLit (LY.n1267 (by simp only [LY_si, LY_sj]; exact L0)) qk1.1 qk1.2 (by decide))) ?_
  refine XS.go (s_aloadn rfl rfl rfl) ?_
  refine XS.go (s_getr rfl xf12_25 (LY.lt (by simp only [LY_si, LY_sj]; exact L0) (by decide)) (LY.k1262 (by simp only [LY_si, LY_sj]; exact L0)) (by decide) rfl (LY.r1262_10 (by simp only [LY_si, LY_sj]; exact L0))) ?_
  refine XS.go (s_aloadn rfl rfl rfl) ?_
  refine XS.go (s_getie rfl xf12_184 (LY.lt (by simp only [LY_si, LY_sj]; exact L0) (by decide)) (LY.k1262 (by simp only [LY_si, LY_sj]; exact L0)) (by decide) rfl ((hi_hsi_na (by decide)).trans (hi_hsi_na (by decide)))) ?_
  refine XS.go (s_iloadn rfl rfl rfl) ?_
  refine XS.go (s_iast rfl (LY.lt (by simp only [LY_si, LY_sj]; exact L0) (by decide)) (LY.k1268 (by simp only [LY_si, LY_sj]; exact L0)) (inLit (LY.n1268 (by simp only [LY_si, LY_sj]; exact L0)) qk1.1 qk1.2 (by decide))) ?_
  refine XS.go (s_aloadn rfl rfl rfl) ?_
  refine XS.go (s_getr rfl xf12_28 (LY.lt (by simp only [LY_si, LY_sj]; exact L0) (by decide)) (LY.k1262 (by simp only [LY_si, LY_sj]; exact L0)) (by decide) rfl (LY.r1262_11 (by simp only [LY_si, LY_sj]; exact L0))) ?_
  refine XS.go (s_aloadn rfl rfl rfl) ?_
  refine XS.go (s_getie rfl xf12_184 (LY.lt (by simp only [LY_si, LY_sj]; exact L0) (by decide)) (LY.k1262 (by simp only [LY_si, LY_sj]; exact L0)) (by decide) rfl ((hi_hsi_na (by decide)).trans ((hi_hsi_na (by decide)).trans (hi_hsi_na (by decide))))) ?_
  refine XS.go (s_iload rfl rfl) ?_
  refine XS.go (s_iast rfl (LY.lt (by simp only [LY_si, LY_sj]; exact L0) (by decide)) (LY.k1269 (by simp only [LY_si, LY_sj]; exact L0)) (inLit (LY.n1269 (by simp only [LY_si, LY_sj]; exact L0)) qk1.1 qk1.2 (by decide))) ?_
  refine XS.go (s_aloadn rfl rfl rfl) ?_
  refine XS.go (s_dup rfl rfl) ?_
  refine XS.go (s_getie rfl xf12_184 (LY.lt (by simp only [LY_si, LY_sj]; exact L0) (by decide)) (LY.k1262 (by simp only [LY_si, LY_sj]; exact L0)) (by decide) rfl ((hi_hsi_na (by decide)).trans ((hi_hsi_na (by decide)).trans ((hi_hsi_na (by decide)).trans (hi_hsi_na (by decide)))))) ?_
  refine XS.go (s_iconst (v := 1) rfl rfl) ?_
  refine XS.go (s_iadd rfl) ?_
  refine XS.go (s_puti rfl xf12_184 (LY.lt (by simp only [LY_si, LY_sj]; exact L0) (by decide)) (LY.k1262 (by simp only [LY_si, LY_sj]; exact L0)) (by decide) rfl (Or.inl rfl)) ?_
  cases hf
  exact XR.retv rfl rfl (fun hret => ⟨_, hret, ⟨rfl, rfl⟩, (by simp only [LY_si, LY_sj]; exact L0)⟩)
def b_m_keyword_99 (K5 : Int32 → Int32 → Int32 → Int32 → XH → Option (Int32 × XH)) (x1 : Int32) (x2 : Int32) (x3 : Int32) (x4 : Int32) (x5 : Int32) (h : XH) : Option (Int32 × XH) := (K5 x1 x2 (x3 + 1) (x4 + (x5 + 1)) h)
set_option maxRecDepth 20000 in
theorem kb_m_keyword_99 {l : Launch} {G : XG} {d : Nat} {K5 : Int32 → Int32 → Int32 → Int32 → XH → Option (Int32 × XH)} {x1 : Int32} {x2 : Int32} {x3 : Int32} {x4 : Int32} {x5 : Int32} {h : XH} {r : Int32 × XH} (hK5 : ∀ (x1 : Int32) (x2 : Int32) (x3 : Int32) (x4 : Int32) (h : XH), LY h → K5 x1 x2 x3 x4 h = some r → XR l G xEX12_keyword (d + 4) (5, [some (.ref 1262), some (.int x1), some (.int x2), some (.int x3), some (.int x4), none, none], [], h) (fun C => ∃ v, xRet xEX12_keyword C v ∧ (C.2.2.2 = r.2 ∧ v = some (.int r.1)) ∧ LY r.2)) (L0 : LY h) (hf : b_m_keyword_99 K5 x1 x2 x3 x4 x5 h = some r) : XR l G xEX12_keyword (d + 4) (99, [some (.ref 1262), some (.int x1), some (.int x2), some (.int x3), some (.int x4), some (.int x5), none], [], h) (fun C => ∃ v, xRet xEX12_keyword C v ∧ (C.2.2.2 = r.2 ∧ v = some (.int r.1)) ∧ LY r.2) := by
  unfold b_m_keyword_99 at hf
  refine XS.go (XS.lcl (L3 := [some (.ref 1262), some (.int x1), some (.int x2), some (.int (x3 + 1)), some (.int x4), some (.int x5), none]) (s_inc rfl rfl (Nat.le_of_ble_eq_true rfl)) rfl) ?_
  refine XS.go (s_iload rfl rfl) ?_
  refine XS.go (s_iload rfl rfl) ?_
  refine XS.go (s_iconst (v := 1) rfl rfl) ?_
  refine XS.go (s_iadd rfl) ?_
  refine XS.go (s_iadd rfl) ?_
  refine XS.go (XS.lcl (L3 := [some (.ref 1262), some (.int x1), some (.int x2), some (.int (x3 + 1)), some (.int (x4 + (x5 + 1))), some (.int x5), none]) (s_istore rfl (Nat.le_of_ble_eq_true rfl)) rfl) ?_
  refine XS.go (s_goto (tgt := 5) rfl rfl) ?_
  exact XR.forget (L2 := [some (.ref 1262), some (.int x1), some (.int x2), some (.int (x3 + 1)), some (.int (x4 + (x5 + 1))), none, none]) ⟨rfl, ⟨rfl, ⟨rfl, ⟨rfl, ⟨rfl, trivial⟩⟩⟩⟩⟩ (hK5 x1 x2 (x3 + 1) (x4 + (x5 + 1)) _ L0 hf)
def b_m_keyword_76 (K5 : Int32 → Int32 → Int32 → Int32 → XH → Option (Int32 × XH)) (K21 : Int32 → Int32 → Int32 → Int32 → Int32 → Int32 → XH → Option (Int32 × XH)) (x1 : Int32) (x2 : Int32) (x3 : Int32) (x4 : Int32) (x5 : Int32) (y0 : Int32) (h : XH) : Option (Int32 × XH) := (K21 x1 x2 x3 x4 (x5 + 1) y0 h)
set_option maxRecDepth 20000 in
theorem kb_m_keyword_76 {l : Launch} {G : XG} {d : Nat} {K5 : Int32 → Int32 → Int32 → Int32 → XH → Option (Int32 × XH)} {K21 : Int32 → Int32 → Int32 → Int32 → Int32 → Int32 → XH → Option (Int32 × XH)} {x1 : Int32} {x2 : Int32} {x3 : Int32} {x4 : Int32} {x5 : Int32} {y0 : Int32} {h : XH} {r : Int32 × XH} (hK5 : ∀ (x1 : Int32) (x2 : Int32) (x3 : Int32) (x4 : Int32) (h : XH), LY h → K5 x1 x2 x3 x4 h = some r → XR l G xEX12_keyword (d + 4) (5, [some (.ref 1262), some (.int x1), some (.int x2), some (.int x3), some (.int x4), none, none], [], h) (fun C => ∃ v, xRet xEX12_keyword C v ∧ (C.2.2.2 = r.2 ∧ v = some (.int r.1)) ∧ LY r.2)) (hK21 : ∀ (x1 : Int32) (x2 : Int32) (x3 : Int32) (x4 : Int32) (x5 : Int32) (x6 : Int32) (h : XH), LY h → K21 x1 x2 x3 x4 x5 x6 h = some r → XR l G xEX12_keyword (d + 4) (21, [some (.ref 1262), some (.int x1), some (.int x2), some (.int x3), some (.int x4), some (.int x5), some (.int x6)], [], h) (fun C => ∃ v, xRet xEX12_keyword C v ∧ (C.2.2.2 = r.2 ∧ v = some (.int r.1)) ∧ LY r.2)) (L0 : LY h) (hf : b_m_keyword_76 K5 K21 x1 x2 x3 x4 x5 y0 h = some r) : XR l G xEX12_keyword (d + 4) (76, [some (.ref 1262), some (.int x1), some (.int x2), some (.int x3), some (.int x4), some (.int x5), none], [(.int y0)], h) (fun C => ∃ v, xRet xEX12_keyword C v ∧ (C.2.2.2 = r.2 ∧ v = some (.int r.1)) ∧ LY r.2) := by
  unfold b_m_keyword_76 at hf
  refine XS.go (XS.lcl (L3 := [some (.ref 1262), some (.int x1), some (.int x2), some (.int x3), some (.int x4), some (.int x5), some (.int y0)]) (s_istore rfl (Nat.le_of_ble_eq_true rfl)) rfl) ?_
  refine XS.go (XS.lcl (L3 := [some (.ref 1262), some (.int x1), some (.int x2), some (.int x3), some (.int x4), some (.int (x5 + 1)), some (.int y0)]) (s_inc rfl rfl (Nat.le_of_ble_eq_true rfl)) rfl) ?_
  refine XS.go (s_goto (tgt := 21) rfl rfl) ?_
  exact XR.forget (L2 := [some (.ref 1262), some (.int x1), some (.int x2), some (.int x3), some (.int x4), some (.int (x5 + 1)), some (.int y0)]) ⟨rfl, ⟨rfl, ⟨rfl, ⟨rfl, ⟨rfl, ⟨rfl, ⟨rfl, trivial⟩⟩⟩⟩⟩⟩⟩ (hK21 x1 x2 x3 x4 (x5 + 1) y0 _ L0 hf)
def b_m_keyword_75 (K5 : Int32 → Int32 → Int32 → Int32 → XH → Option (Int32 × XH)) (K21 : Int32 → Int32 → Int32 → Int32 → Int32 → Int32 → XH → Option (Int32 × XH)) (x1 : Int32) (x2 : Int32) (x3 : Int32) (x4 : Int32) (x5 : Int32) (h : XH) : Option (Int32 × XH) := (b_m_keyword_76 K5 K21 x1 x2 x3 x4 x5 0 h)
set_option maxRecDepth 20000 in
theorem kb_m_keyword_75 {l : Launch} {G : XG} {d : Nat} {K5 : Int32 → Int32 → Int32 → Int32 → XH → Option (Int32 × XH)} {K21 : Int32 → Int32 → Int32 → Int32 → Int32 → Int32 → XH → Option (Int32 × XH)} {x1 : Int32} {x2 : Int32} {x3 : Int32} {x4 : Int32} {x5 : Int32} {h : XH} {r : Int32 × XH} (hK5 : ∀ (x1 : Int32) (x2 : Int32) (x3 : Int32) (x4 : Int32) (h : XH), LY h → K5 x1 x2 x3 x4 h = some r → XR l G xEX12_keyword (d + 4) (5, [some (.ref 1262), some (.int x1), some (.int x2), some (.int x3), some (.int x4), none, none], [], h) (fun C => ∃ v, xRet xEX12_keyword C v ∧ (C.2.2.2 = r.2 ∧ v = some (.int r.1)) ∧ LY r.2)) (hK21 : ∀ (x1 : Int32) (x2 : Int32) (x3 : Int32) (x4 : Int32) (x5 : Int32) (x6 : Int32) (h : XH), LY h → K21 x1 x2 x3 x4 x5 x6 h = some r → XR l G xEX12_keyword (d + 4) (21, [some (.ref 1262), some (.int x1), some (.int x2), some (.int x3), some (.int x4), some (.int x5), some (.int x6)], [], h) (fun C => ∃ v, xRet xEX12_keyword C v ∧ (C.2.2.2 = r.2 ∧ v = some (.int r.1)) ∧ LY r.2)) (L0 : LY h) (hf : b_m_keyword_75 K5 K21 x1 x2 x3 x4 x5 h = some r) : XR l G xEX12_keyword (d + 4) (75, [some (.ref 1262), some (.int x1), some (.int x2), some (.int x3), some (.int x4), some (.int x5), none], [], h) (fun C => ∃ v, xRet xEX12_keyword C v ∧ (C.2.2.2 = r.2 ∧ v = some (.int r.1)) ∧ LY r.2) := by
  unfold b_m_keyword_75 at hf
  refine XS.go (s_iconst (v := 0) rfl rfl) ?_
  exact XR.forget (L2 := [some (.ref 1262), some (.int x1), some (.int x2), some (.int x3), some (.int x4), some (.int x5), none]) ⟨rfl, ⟨rfl, ⟨rfl, ⟨rfl, ⟨rfl, ⟨rfl, trivial⟩⟩⟩⟩⟩⟩ (kb_m_keyword_76 hK5 hK21 L0 hf)
def s_m_keyword_21 (K5 : Int32 → Int32 → Int32 → Int32 → XH → Option (Int32 × XH)) (K21 : Int32 → Int32 → Int32 → Int32 → Int32 → Int32 → XH → Option (Int32 × XH)) (x1 : Int32) (x2 : Int32) (x3 : Int32) (x4 : Int32) (x5 : Int32) (x6 : Int32) (h : XH) : Option (Int32 × XH) := (if 0 ≤ (x4 + x5) ∧ (x4 + x5) < nI (xlen 10000045) then (if (xch 10000045 (x4 + x5)) = 32 then (if x6 = 0 then (b_m_keyword_99 K5 x1 x2 x3 x4 x5 h) else (if ¬ x5 = (x2 - x1) then (b_m_keyword_99 K5 x1 x2 x3 x4 x5 h) else (some (x3, h)))) else (if x6 = 0 then (b_m_keyword_75 K5 K21 x1 x2 x3 x4 x5 h) else (if x2 ≤ (x1 + x5) then (b_m_keyword_75 K5 K21 x1 x2 x3 x4 x5 h) else (if 0 ≤ (x1 + x5) ∧ (x1 + x5) < nI 4000 then (if 0 ≤ (x4 + x5) ∧ (x4 + x5) < nI (xlen 10000045) then (if ¬ (hi h 1264 (Int32.toNatClampNeg (x1 + x5))) = (xch 10000045 (x4 + x5)) then (b_m_keyword_75 K5 K21 x1 x2 x3 x4 x5 h) else (b_m_keyword_76 K5 K21 x1 x2 x3 x4 x5 1 h)) else none) else none)))) else none)
set_option maxRecDepth 20000 in
theorem ks_m_keyword_21 {l : Launch} {G : XG} {d : Nat} {K5 : Int32 → Int32 → Int32 → Int32 → XH → Option (Int32 × XH)} {K21 : Int32 → Int32 → Int32 → Int32 → Int32 → Int32 → XH → Option (Int32 × XH)} {x1 : Int32} {x2 : Int32} {x3 : Int32} {x4 : Int32} {x5 : Int32} {x6 : Int32} {h : XH} {r : Int32 × XH} (hK5 : ∀ (x1 : Int32) (x2 : Int32) (x3 : Int32) (x4 : Int32) (h : XH), LY h → K5 x1 x2 x3 x4 h = some r → XR l G xEX12_keyword (d + 4) (5, [some (.ref 1262), some (.int x1), some (.int x2), some (.int x3), some (.int x4), none, none], [], h) (fun C => ∃ v, xRet xEX12_keyword C v ∧ (C.2.2.2 = r.2 ∧ v = some (.int r.1)) ∧ LY r.2)) (hK21 : ∀ (x1 : Int32) (x2 : Int32) (x3 : Int32) (x4 : Int32) (x5 : Int32) (x6 : Int32) (h : XH), LY h → K21 x1 x2 x3 x4 x5 x6 h = some r → XR l G xEX12_keyword (d + 4) (21, [some (.ref 1262), some (.int x1), some (.int x2), some (.int x3), some (.int x4), some (.int x5), some (.int x6)], [], h) (fun C => ∃ v, xRet xEX12_keyword C v ∧ (C.2.2.2 = r.2 ∧ v = some (.int r.1)) ∧ LY r.2)) (L0 : LY h) (hf : s_m_keyword_21 K5 K21 x1 x2 x3 x4 x5 x6 h = some r) : XR l G xEX12_keyword (d + 4) (21, [some (.ref 1262), some (.int x1), some (.int x2), some (.int x3), some (.int x4), some (.int x5), some (.int x6)], [], h) (fun C => ∃ v, xRet xEX12_keyword C v ∧ (C.2.2.2 = r.2 ∧ v = some (.int r.1)) ∧ LY r.2) := by
  unfold s_m_keyword_21 at hf
  refine XS.go (s_ldcs (i := 35) rfl rfl rfl) ?_
  refine XS.go (s_iload rfl rfl) ?_
  refine XS.go (s_iload rfl rfl) ?_
  refine XS.go (s_iadd rfl) ?_
  replace hf := xi_none hf
  obtain ⟨qk1, hf⟩ := hf
  refine r_callvA rfl xvJ0_charAt rfl xj12_217 (kS_charAt (d := d) (by decide) (Int32.not_lt.mpr qk1.1) qk1.2) (by decide) rfl rfl (dl (by decide)) (by decide) (Nat.le_of_ble_eq_true rfl) ?_
  rintro _ _ ⟨rfl, rfl⟩
  refine XS.go (s_bipush (v := 32) rfl rfl) ?_
  refine r_icmp_eq (tgt := 84) rfl rfl (fun qc2 => ?_) (fun qc2 => ?_)
  · replace hf := xi_pos hf qc2
    refine XS.go (s_iload rfl rfl) ?_
    refine r_if_eq (tgt := 99) rfl rfl (fun qc3 => ?_) (fun qc3 => ?_)
    · replace hf := xi_pos hf qc3
      exact XR.forget (L2 := [some (.ref 1262), some (.int x1), some (.int x2), some (.int x3), some (.int x4), some (.int x5), none]) ⟨rfl, ⟨rfl, ⟨rfl, ⟨rfl, ⟨rfl, ⟨rfl, trivial⟩⟩⟩⟩⟩⟩ (kb_m_keyword_99 hK5 L0 hf)
    · replace hf := xi_neg hf qc3
      refine XS.go (s_iload rfl rfl) ?_
      refine XS.go (s_iloadn rfl rfl rfl) ?_
      refine XS.go (s_iloadn rfl rfl rfl) ?_
      refine XS.go (s_isub rfl) ?_
      refine r_icmp_ne (tgt := 99) rfl rfl (fun qc4 => ?_) (fun qc4 => ?_)
      · replace hf := xi_pos hf qc4
        exact XR.forget (L2 := [some (.ref 1262), some (.int x1), some (.int x2), some (.int x3), some (.int x4), some (.int x5), none]) ⟨rfl, ⟨rfl, ⟨rfl, ⟨rfl, ⟨rfl, ⟨rfl, trivial⟩⟩⟩⟩⟩⟩ (kb_m_keyword_99 hK5 L0 hf)
      · replace hf := xi_neg hf qc4
        refine XS.go (s_iloadn rfl rfl rfl) ?_
        cases hf
        exact XR.reti rfl rfl (fun hret => ⟨_, hret, ⟨rfl, rfl⟩, L0⟩)
  · replace hf := xi_neg hf qc2
    refine XS.go (s_iload rfl rfl) ?_
    refine r_if_eq (tgt := 75) rfl rfl (fun qc5 => ?_) (fun qc5 => ?_)
    · replace hf := xi_pos hf qc5
      exact XR.forget (L2 := [some (.ref 1262), some (.int x1), some (.int x2), some (.int x3), some (.int x4), some (.int x5), none]) ⟨rfl, ⟨rfl, ⟨rfl, ⟨rfl, ⟨rfl, ⟨rfl, trivial⟩⟩⟩⟩⟩⟩ (kb_m_keyword_75 hK5 hK21 L0 hf)
    · replace hf := xi_neg hf qc5
      refine XS.go (s_iloadn rfl rfl rfl) ?_
      refine XS.go (s_iload rfl rfl) ?_
      refine XS.go (s_iadd rfl) ?_
      refine XS.go (s_iloadn rfl rfl rfl) ?_
      refine r_icmp_ge (tgt := 75) rfl rfl (fun qc6 => ?_) (fun qc6 => ?_)
      · replace hf := xi_pos hf qc6
        exact XR.forget (L2 := [some (.ref 1262), some (.int x1), some (.int x2), some (.int x3), some (.int x4), some (.int x5), none]) ⟨rfl, ⟨rfl, ⟨rfl, ⟨rfl, ⟨rfl, ⟨rfl, trivial⟩⟩⟩⟩⟩⟩ (kb_m_keyword_75 hK5 hK21 L0 hf)
      · replace hf := xi_neg hf qc6
        refine XS.go (s_aloadn rfl rfl rfl) ?_
        refine XS.go (s_getr rfl xf12_13 (LY.lt L0 (by decide)) (LY.k1262 L0) (by decide) rfl (LY.r1262_3 L0)) ?_
        refine XS.go (s_iloadn rfl rfl rfl) ?_
        refine XS.go (s_iload rfl rfl) ?_
        refine XS.go (s_iadd rfl) ?_
        replace hf := xi_none hf
        obtain ⟨qk7, hf⟩ := hf
        refine XS.go (s_ialde rfl (LY.lt L0 (by decide)) (LY.k1264 L0) (inLit (LY.n1264 L0) qk7.1 qk7.2 (by decide)) rfl) ?_
        refine XS.go (s_ldcs (i := 35) rfl rfl rfl) ?_
        refine XS.go (s_iload rfl rfl) ?_
        refine XS.go (s_iload rfl rfl) ?_
        refine XS.go (s_iadd rfl) ?_
        replace hf := xi_none hf
        obtain ⟨qk8, hf⟩ := hf
        refine r_callvA rfl xvJ0_charAt rfl xj12_217 (kS_charAt (d := d) (by decide) (Int32.not_lt.mpr qk8.1) qk8.2) (by decide) rfl rfl (dl (by decide)) (by decide) (Nat.le_of_ble_eq_true rfl) ?_
        rintro _ _ ⟨rfl, rfl⟩
        refine r_icmp_ne (tgt := 75) rfl rfl (fun qc9 => ?_) (fun qc9 => ?_)
        · replace hf := xi_pos hf qc9
          exact XR.forget (L2 := [some (.ref 1262), some (.int x1), some (.int x2), some (.int x3), some (.int x4), some (.int x5), none]) ⟨rfl, ⟨rfl, ⟨rfl, ⟨rfl, ⟨rfl, ⟨rfl, trivial⟩⟩⟩⟩⟩⟩ (kb_m_keyword_75 hK5 hK21 L0 hf)
        · replace hf := xi_neg hf qc9
          refine XS.go (s_iconst (v := 1) rfl rfl) ?_
          refine XS.go (s_goto (tgt := 76) rfl rfl) ?_
          exact XR.forget (L2 := [some (.ref 1262), some (.int x1), some (.int x2), some (.int x3), some (.int x4), some (.int x5), none]) ⟨rfl, ⟨rfl, ⟨rfl, ⟨rfl, ⟨rfl, ⟨rfl, trivial⟩⟩⟩⟩⟩⟩ (kb_m_keyword_76 hK5 hK21 L0 hf)
def b_m_keyword_21 (K5 : Int32 → Int32 → Int32 → Int32 → XH → Option (Int32 × XH)) : Nat → Int32 → Int32 → Int32 → Int32 → Int32 → Int32 → XH → Option (Int32 × XH)
  | 0, _, _, _, _, _, _, _ => none
  | n + 1, x1, x2, x3, x4, x5, x6, h => s_m_keyword_21 K5 (b_m_keyword_21 K5 n) x1 x2 x3 x4 x5 x6 h
theorem kb_m_keyword_21 {l : Launch} {G : XG} {d : Nat} {K5 : Int32 → Int32 → Int32 → Int32 → XH → Option (Int32 × XH)} {n : Nat} {x1 : Int32} {x2 : Int32} {x3 : Int32} {x4 : Int32} {x5 : Int32} {x6 : Int32} {h : XH} {r : Int32 × XH} (hK5 : ∀ (x1 : Int32) (x2 : Int32) (x3 : Int32) (x4 : Int32) (h : XH), LY h → K5 x1 x2 x3 x4 h = some r → XR l G xEX12_keyword (d + 4) (5, [some (.ref 1262), some (.int x1), some (.int x2), some (.int x3), some (.int x4), none, none], [], h) (fun C => ∃ v, xRet xEX12_keyword C v ∧ (C.2.2.2 = r.2 ∧ v = some (.int r.1)) ∧ LY r.2)) (L0 : LY h) (hf : b_m_keyword_21 K5 n x1 x2 x3 x4 x5 x6 h = some r) : XR l G xEX12_keyword (d + 4) (21, [some (.ref 1262), some (.int x1), some (.int x2), some (.int x3), some (.int x4), some (.int x5), some (.int x6)], [], h) (fun C => ∃ v, xRet xEX12_keyword C v ∧ (C.2.2.2 = r.2 ∧ v = some (.int r.1)) ∧ LY r.2) := by
  induction n generalizing x1 x2 x3 x4 x5 x6 h with
  | zero => cases hf
  | succ n ih => exact ks_m_keyword_21 hK5 (fun x1 x2 x3 x4 x5 x6 h L0 hf => ih (h := h) (x1 := x1) (x2 := x2) (x3 := x3) (x4 := x4) (x5 := x5) (x6 := x6) L0 hf) L0 hf
def s_m_keyword_5 (K5 : Int32 → Int32 → Int32 → Int32 → XH → Option (Int32 × XH)) (x1 : Int32) (x2 : Int32) (x3 : Int32) (x4 : Int32) (h : XH) : Option (Int32 × XH) := (if (nI (xlen 10000045)) ≤ x4 then (some ((-1), h)) else (b_m_keyword_21 K5 100000 x1 x2 x3 x4 0 1 h))
set_option maxRecDepth 20000 in
theorem ks_m_keyword_5 {l : Launch} {G : XG} {d : Nat} {K5 : Int32 → Int32 → Int32 → Int32 → XH → Option (Int32 × XH)} {x1 : Int32} {x2 : Int32} {x3 : Int32} {x4 : Int32} {h : XH} {r : Int32 × XH} (hK5 : ∀ (x1 : Int32) (x2 : Int32) (x3 : Int32) (x4 : Int32) (h : XH), LY h → K5 x1 x2 x3 x4 h = some r → XR l G xEX12_keyword (d + 4) (5, [some (.ref 1262), some (.int x1), some (.int x2), some (.int x3), some (.int x4), none, none], [], h) (fun C => ∃ v, xRet xEX12_keyword C v ∧ (C.2.2.2 = r.2 ∧ v = some (.int r.1)) ∧ LY r.2)) (L0 : LY h) (hf : s_m_keyword_5 K5 x1 x2 x3 x4 h = some r) : XR l G xEX12_keyword (d + 4) (5, [some (.ref 1262), some (.int x1), some (.int x2), some (.int x3), some (.int x4), none, none], [], h) (fun C => ∃ v, xRet xEX12_keyword C v ∧ (C.2.2.2 = r.2 ∧ v = some (.int r.1)) ∧ LY r.2) := by
  unfold s_m_keyword_5 at hf
  refine XS.go (s_iload rfl rfl) ?_
  refine XS.go (s_ldcs (i := 35) rfl rfl rfl) ?_
  refine r_callvA rfl xvJ0_length rfl xj12_211 (kS_length (d := d) (by decide)) (by decide) rfl rfl (dl (by decide)) (by decide) (Nat.le_of_ble_eq_true rfl) ?_
  rintro _ _ ⟨rfl, rfl⟩
  refine r_icmp_ge (tgt := 114) rfl rfl (fun qc10 => ?_) (fun qc10 => ?_)
  · replace hf := xi_pos hf qc10
    refine XS.go (s_iconst (v := (-1)) rfl rfl) ?_
    cases hf
    exact XR.reti rfl rfl (fun hret => ⟨_, hret, ⟨rfl, rfl⟩, L0⟩)
  · replace hf := xi_neg hf qc10
    refine XS.go (s_iconst (v := 0) rfl rfl) ?_
    refine XS.go (XS.lcl (L3 := [some (.ref 1262), some (.int x1), some (.int x2), some (.int x3), some (.int x4), some (.int 0), none]) (s_istore rfl (Nat.le_of_ble_eq_true rfl)) rfl) ?_
    refine XS.go (s_iconst (v := 1) rfl rfl) ?_
    refine XS.go (XS.lcl (L3 := [some (.ref 1262), some (.int x1), some (.int x2), some (.int x3), some (.int x4), some (.int 0), some (.int 1)]) (s_istore rfl (Nat.le_of_ble_eq_true rfl)) rfl) ?_
    exact XR.forget (L2 := [some (.ref 1262), some (.int x1), some (.int x2), some (.int x3), some (.int x4), some (.int 0), some (.int 1)]) ⟨rfl, ⟨rfl, ⟨rfl, ⟨rfl, ⟨rfl, ⟨rfl, ⟨rfl, trivial⟩⟩⟩⟩⟩⟩⟩ (kb_m_keyword_21 hK5 L0 hf)
def b_m_keyword_5 : Nat → Int32 → Int32 → Int32 → Int32 → XH → Option (Int32 × XH)
  | 0, _, _, _, _, _ => none
  | n + 1, x1, x2, x3, x4, h => s_m_keyword_5 (b_m_keyword_5 n) x1 x2 x3 x4 h
theorem kb_m_keyword_5 {l : Launch} {G : XG} {d : Nat} {n : Nat} {x1 : Int32} {x2 : Int32} {x3 : Int32} {x4 : Int32} {h : XH} {r : Int32 × XH} (L0 : LY h) (hf : b_m_keyword_5 n x1 x2 x3 x4 h = some r) : XR l G xEX12_keyword (d + 4) (5, [some (.ref 1262), some (.int x1), some (.int x2), some (.int x3), some (.int x4), none, none], [], h) (fun C => ∃ v, xRet xEX12_keyword C v ∧ (C.2.2.2 = r.2 ∧ v = some (.int r.1)) ∧ LY r.2) := by
  induction n generalizing x1 x2 x3 x4 h with
  | zero => cases hf
  | succ n ih => exact ks_m_keyword_5 (fun x1 x2 x3 x4 h L0 hf => ih (h := h) (x1 := x1) (x2 := x2) (x3 := x3) (x4 := x4) L0 hf) L0 hf
def f_m_keyword (a0 : Int32) (a1 : Int32) (h : XH) : Option (Int32 × XH) := (b_m_keyword_5 100000 a0 a1 0 0 h)
set_option maxRecDepth 20000 in
theorem kf_m_keyword {l : Launch} {G : XG} {d : Nat} {a0 : Int32} {a1 : Int32} {h : XH} {r : Int32 × XH} (L0 : LY h) (hf : f_m_keyword a0 a1 h = some r) : XC l G xEX12_keyword (d + 4) [.ref 1262, .int a0, .int a1] h (fun v h2 => (h2 = r.2 ∧ v = some (.int r.1)) ∧ LY r.2) := by
  refine XC.virt xvX12_keyword (Nat.le_of_ble_eq_true rfl) ?_
  unfold f_m_keyword at hf
  refine XR.norm (L3 := [some (.ref 1262), some (.int a0), some (.int a1), none, none, none, none]) rfl ?_
  refine XS.go (s_iconst (v := 0) rfl rfl) ?_
  refine XS.go (XS.lcl (L3 := [some (.ref 1262), some (.int a0), some (.int a1), some (.int 0), none, none, none]) (s_istoren rfl rfl (Nat.le_of_ble_eq_true rfl)) rfl) ?_
  refine XS.go (s_iconst (v := 0) rfl rfl) ?_
  refine XS.go (XS.lcl (L3 := [some (.ref 1262), some (.int a0), some (.int a1), some (.int 0), some (.int 0), none, none]) (s_istore rfl (Nat.le_of_ble_eq_true rfl)) rfl) ?_
  exact XR.forget (L2 := [some (.ref 1262), some (.int a0), some (.int a1), some (.int 0), some (.int 0), none, none]) ⟨rfl, ⟨rfl, ⟨rfl, ⟨rfl, ⟨rfl, trivial⟩⟩⟩⟩⟩ (kb_m_keyword_5 L0 hf)
