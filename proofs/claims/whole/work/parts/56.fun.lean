/-! Methods as functions of the heap -/
def b_t_size_113 (x1 : Int32) (x2 : Int32) (h : XH) : Option (Int32 × XH) := (Option.bind (hr h 0 4) fun b1 => (if b1 < hz h ∧ hk h b1 = 9 then (Option.bind (hr h b1 1) fun b4 => (if b4 < hz h ∧ hk h b4 = 4 then (Option.bind (f_g_at b4 x2 h) fun r7 => (Option.bind (r7.1) fun b10 => (Option.bind (f_t_tableSize b10 x1 r7.2) fun r12 => (some (r12.1, r12.2))))) else none)) else none))
set_option maxRecDepth 20000 in
theorem kb_t_size_113 {l : Launch} {G : XG} {d : Nat} {x1 : Int32} {x2 : Int32} {h : XH} {r : Int32 × XH} (L0 : LY h) (hf : b_t_size_113 x1 x2 h = some r) : XR l G xEX11_size (d + 1) (113, [some (.ref 0), some (.int x1), some (.int x2)], [], h) (fun C => ∃ v, xRet xEX11_size C v ∧ (C.2.2.2 = r.2 ∧ v = some (.int r.1)) ∧ LY r.2) := by
  unfold b_t_size_113 at hf
  refine XS.go (s_aloadn rfl rfl rfl) ?_
  replace hf := xb_some hf
  obtain ⟨b1, qr2, hf⟩ := hf
  refine XS.go (s_getr rfl xf11_36 (LY.lt L0 (by decide)) (LY.k0 L0) (by decide) rfl qr2) ?_
  replace hf := xi_none hf
  obtain ⟨qk3, hf⟩ := hf
  replace hf := xb_some hf
  obtain ⟨b4, qr5, hf⟩ := hf
  refine XS.go (s_getr rfl xf11_116 qk3.1 qk3.2 (by decide) rfl qr5) ?_
  refine XS.go (s_iloadn rfl rfl rfl) ?_
  replace hf := xi_none hf
  obtain ⟨qk6, hf⟩ := hf
  replace hf := xb_some hf
  obtain ⟨r7, e8, hf⟩ := hf
  refine r_callv rfl xvX4_at xm11_134 (kf_g_at (d := d) L0 e8) qk6.1 qk6.2 (by decide) rfl rfl (dl0 (by decide)) (by decide) (Nat.le_of_ble_eq_true rfl) ?_
  rintro _ _ ⟨⟨rfl, rfl⟩, L9⟩
  refine XS.go (s_iloadn rfl rfl rfl) ?_
  replace hf := xb_some hf
  obtain ⟨b10, qo11, hf⟩ := hf
  try rw [qo11]
  replace hf := xb_some hf
  obtain ⟨r12, e13, hf⟩ := hf
  refine r_calls rfl xsX11_tableSize xm11_142 (kf_t_tableSize (d := d) L9 e13) rfl rfl (dl0 (by decide)) (by decide) (Nat.le_of_ble_eq_true rfl) ?_
  rintro _ _ ⟨⟨rfl, rfl⟩, L14⟩
  cases hf
  exact XR.reti rfl rfl (fun hret => ⟨_, hret, ⟨rfl, rfl⟩, L14⟩)
def b_t_size_97 (x1 : Int32) (x2 : Int32) (h : XH) : Option (Int32 × XH) := (Option.bind (hr h 0 4) fun b15 => (if b15 < hz h ∧ hk h b15 = 9 then (Option.bind (hr h b15 0) fun b18 => (if b18 < hz h ∧ hk h b18 = 4 then (Option.bind (f_g_at b18 x2 h) fun r21 => (Option.bind (r21.1) fun b24 => (Option.bind (f_t_structSize b24 x1 r21.2) fun r26 => (some (r26.1, r26.2))))) else none)) else none))
set_option maxRecDepth 20000 in
theorem kb_t_size_97 {l : Launch} {G : XG} {d : Nat} {x1 : Int32} {x2 : Int32} {h : XH} {r : Int32 × XH} (L0 : LY h) (hf : b_t_size_97 x1 x2 h = some r) : XR l G xEX11_size (d + 1) (97, [some (.ref 0), some (.int x1), some (.int x2)], [], h) (fun C => ∃ v, xRet xEX11_size C v ∧ (C.2.2.2 = r.2 ∧ v = some (.int r.1)) ∧ LY r.2) := by
  unfold b_t_size_97 at hf
  refine XS.go (s_aloadn rfl rfl rfl) ?_
  replace hf := xb_some hf
  obtain ⟨b15, qr16, hf⟩ := hf
  refine XS.go (s_getr rfl xf11_36 (LY.lt L0 (by decide)) (LY.k0 L0) (by decide) rfl qr16) ?_
  replace hf := xi_none hf
  obtain ⟨qk17, hf⟩ := hf
  replace hf := xb_some hf
  obtain ⟨b18, qr19, hf⟩ := hf
  refine XS.go (s_getr rfl xf11_125 qk17.1 qk17.2 (by decide) rfl qr19) ?_
  refine XS.go (s_iloadn rfl rfl rfl) ?_
  replace hf := xi_none hf
  obtain ⟨qk20, hf⟩ := hf
  replace hf := xb_some hf
  obtain ⟨r21, e22, hf⟩ := hf
  refine r_callv rfl xvX4_at xm11_134 (kf_g_at (d := d) L0 e22) qk20.1 qk20.2 (by decide) rfl rfl (dl0 (by decide)) (by decide) (Nat.le_of_ble_eq_true rfl) ?_
  rintro _ _ ⟨⟨rfl, rfl⟩, L23⟩
  refine XS.go (s_iloadn rfl rfl rfl) ?_
  replace hf := xb_some hf
  obtain ⟨b24, qo25, hf⟩ := hf
  try rw [qo25]
  replace hf := xb_some hf
  obtain ⟨r26, e27, hf⟩ := hf
  refine r_calls rfl xsX11_structSize xm11_138 (kf_t_structSize (d := d) L23 e27) rfl rfl (dl0 (by decide)) (by decide) (Nat.le_of_ble_eq_true rfl) ?_
  rintro _ _ ⟨⟨rfl, rfl⟩, L28⟩
  cases hf
  exact XR.reti rfl rfl (fun hret => ⟨_, hret, ⟨rfl, rfl⟩, L28⟩)
def f_t_size (a0 : Int32) (a1 : Int32) (h : XH) : Option (Int32 × XH) := (if a0 = 0 then (Option.bind (hr h 0 4) fun b30 => (if b30 < hz h ∧ hk h b30 = 9 then (Option.bind (hr h b30 0) fun b33 => (if b33 < hz h ∧ hk h b33 = 4 then (some ((hi h b33 1), h)) else none)) else none)) else (if a0 = 1 then (Option.bind (hr h 0 4) fun b36 => (if b36 < hz h ∧ hk h b36 = 9 then (Option.bind (hr h b36 1) fun b39 => (if b39 < hz h ∧ hk h b39 = 4 then (some ((hi h b39 1), h)) else none)) else none)) else (if a0 = 2 then (Option.bind (hr h 0 4) fun b42 => (if b42 < hz h ∧ hk h b42 = 9 then (Option.bind (hr h b42 2) fun b45 => (if b45 < hz h ∧ hk h b45 = 4 then (some ((hi h b45 1), h)) else none)) else none)) else (if a0 = 3 then (Option.bind (hr h 0 4) fun b48 => (if b48 < hz h ∧ hk h b48 = 9 then (some ((hi h b48 5), h)) else none)) else (if a0 = 4 then (b_t_size_97 a0 a1 h) else (if a0 = 5 then (b_t_size_97 a0 a1 h) else (if a0 = 6 then (b_t_size_97 a0 a1 h) else (if a0 = 7 then (b_t_size_113 a0 a1 h) else (if a0 = 8 then (b_t_size_113 a0 a1 h) else (if a0 = 9 then (Option.bind (hr h 0 4) fun b51 => (if b51 < hz h ∧ hk h b51 = 9 then (Option.bind (hr h b51 2) fun b54 => (if b54 < hz h ∧ hk h b54 = 4 then (Option.bind (f_g_at b54 a1 h) fun r57 => (Option.bind (r57.1) fun b60 => (Option.bind (f_t_memberCount b60 r57.2) fun r62 => (some (r62.1, r62.2))))) else none)) else none)) else (some ((-1), h))))))))))))
set_option maxRecDepth 20000 in
theorem kf_t_size {l : Launch} {G : XG} {d : Nat} {a0 : Int32} {a1 : Int32} {h : XH} {r : Int32 × XH} (L0 : LY h) (hf : f_t_size a0 a1 h = some r) : XC l G xEX11_size (d + 1) [.ref 0, .int a0, .int a1] h (fun v h2 => (h2 = r.2 ∧ v = some (.int r.1)) ∧ LY r.2) := by
  refine XC.virt xvX11_size (Nat.le_of_ble_eq_true rfl) ?_
  unfold f_t_size at hf
  refine XR.norm (L3 := [some (.ref 0), some (.int a0), some (.int a1)]) rfl ?_
  refine XS.go (s_iloadn rfl rfl rfl) ?_
  by_cases qs29_0 : a0 = 0
  · replace hf := xi_pos hf qs29_0
    refine XS.go (s_tswI (tgt := 56) rfl (by rw [qs29_0]; decide) (by rw [qs29_0]; decide) (by rw [qs29_0]; rfl) rfl) ?_
    refine XS.go (s_aloadn rfl rfl rfl) ?_
    replace hf := xb_some hf
    obtain ⟨b30, qr31, hf⟩ := hf
    refine XS.go (s_getr rfl xf11_36 (LY.lt L0 (by decide)) (LY.k0 L0) (by decide) rfl qr31) ?_
    replace hf := xi_none hf
    obtain ⟨qk32, hf⟩ := hf
    replace hf := xb_some hf
    obtain ⟨b33, qr34, hf⟩ := hf
    refine XS.go (s_getr rfl xf11_125 qk32.1 qk32.2 (by decide) rfl qr34) ?_
    replace hf := xi_none hf
    obtain ⟨qk35, hf⟩ := hf
    refine XS.go (s_getie rfl xf11_120 qk35.1 qk35.2 (by decide) rfl rfl) ?_
    cases hf
    exact XR.reti rfl rfl (fun hret => ⟨_, hret, ⟨rfl, rfl⟩, L0⟩)
  replace hf := xi_neg hf qs29_0
  by_cases qs29_1 : a0 = 1
  · replace hf := xi_pos hf qs29_1
    refine XS.go (s_tswI (tgt := 67) rfl (by rw [qs29_1]; decide) (by rw [qs29_1]; decide) (by rw [qs29_1]; rfl) rfl) ?_
    refine XS.go (s_aloadn rfl rfl rfl) ?_
    replace hf := xb_some hf
    obtain ⟨b36, qr37, hf⟩ := hf
    refine XS.go (s_getr rfl xf11_36 (LY.lt L0 (by decide)) (LY.k0 L0) (by decide) rfl qr37) ?_
    replace hf := xi_none hf
    obtain ⟨qk38, hf⟩ := hf
    replace hf := xb_some hf
    obtain ⟨b39, qr40, hf⟩ := hf
    refine XS.go (s_getr rfl xf11_116 qk38.1 qk38.2 (by decide) rfl qr40) ?_
    replace hf := xi_none hf
    obtain ⟨qk41, hf⟩ := hf
    refine XS.go (s_getie rfl xf11_120 qk41.1 qk41.2 (by decide) rfl rfl) ?_
    cases hf
    exact XR.reti rfl rfl (fun hret => ⟨_, hret, ⟨rfl, rfl⟩, L0⟩)
  replace hf := xi_neg hf qs29_1
  by_cases qs29_2 : a0 = 2
  · replace hf := xi_pos hf qs29_2
    refine XS.go (s_tswI (tgt := 78) rfl (by rw [qs29_2]; decide) (by rw [qs29_2]; decide) (by rw [qs29_2]; rfl) rfl) ?_
    refine XS.go (s_aloadn rfl rfl rfl) ?_
    replace hf := xb_some hf
    obtain ⟨b42, qr43, hf⟩ := hf
    refine XS.go (s_getr rfl xf11_36 (LY.lt L0 (by decide)) (LY.k0 L0) (by decide) rfl qr43) ?_
    replace hf := xi_none hf
    obtain ⟨qk44, hf⟩ := hf
    replace hf := xb_some hf
    obtain ⟨b45, qr46, hf⟩ := hf
    refine XS.go (s_getr rfl xf11_128 qk44.1 qk44.2 (by decide) rfl qr46) ?_
    replace hf := xi_none hf
    obtain ⟨qk47, hf⟩ := hf
    refine XS.go (s_getie rfl xf11_120 qk47.1 qk47.2 (by decide) rfl rfl) ?_
    cases hf
    exact XR.reti rfl rfl (fun hret => ⟨_, hret, ⟨rfl, rfl⟩, L0⟩)
  replace hf := xi_neg hf qs29_2
  by_cases qs29_3 : a0 = 3
  · replace hf := xi_pos hf qs29_3
    refine XS.go (s_tswI (tgt := 89) rfl (by rw [qs29_3]; decide) (by rw [qs29_3]; decide) (by rw [qs29_3]; rfl) rfl) ?_
    refine XS.go (s_aloadn rfl rfl rfl) ?_
    replace hf := xb_some hf
    obtain ⟨b48, qr49, hf⟩ := hf
    refine XS.go (s_getr rfl xf11_36 (LY.lt L0 (by decide)) (LY.k0 L0) (by decide) rfl qr49) ?_
    replace hf := xi_none hf
    obtain ⟨qk50, hf⟩ := hf
    refine XS.go (s_getie rfl xf11_131 qk50.1 qk50.2 (by decide) rfl rfl) ?_
    cases hf
    exact XR.reti rfl rfl (fun hret => ⟨_, hret, ⟨rfl, rfl⟩, L0⟩)
  replace hf := xi_neg hf qs29_3
  by_cases qs29_4 : a0 = 4
  · replace hf := xi_pos hf qs29_4
    refine XS.go (s_tswI (tgt := 97) rfl (by rw [qs29_4]; decide) (by rw [qs29_4]; decide) (by rw [qs29_4]; rfl) rfl) ?_
    exact XR.forget (L2 := [some (.ref 0), some (.int a0), some (.int a1)]) ⟨rfl, ⟨rfl, ⟨rfl, trivial⟩⟩⟩ (kb_t_size_97 L0 hf)
  replace hf := xi_neg hf qs29_4
  by_cases qs29_5 : a0 = 5
  · replace hf := xi_pos hf qs29_5
    refine XS.go (s_tswI (tgt := 97) rfl (by rw [qs29_5]; decide) (by rw [qs29_5]; decide) (by rw [qs29_5]; rfl) rfl) ?_
    exact XR.forget (L2 := [some (.ref 0), some (.int a0), some (.int a1)]) ⟨rfl, ⟨rfl, ⟨rfl, trivial⟩⟩⟩ (kb_t_size_97 L0 hf)
  replace hf := xi_neg hf qs29_5
  by_cases qs29_6 : a0 = 6
  · replace hf := xi_pos hf qs29_6
    refine XS.go (s_tswI (tgt := 97) rfl (by rw [qs29_6]; decide) (by rw [qs29_6]; decide) (by rw [qs29_6]; rfl) rfl) ?_
    exact XR.forget (L2 := [some (.ref 0), some (.int a0), some (.int a1)]) ⟨rfl, ⟨rfl, ⟨rfl, trivial⟩⟩⟩ (kb_t_size_97 L0 hf)
  replace hf := xi_neg hf qs29_6
  by_cases qs29_7 : a0 = 7
  · replace hf := xi_pos hf qs29_7
    refine XS.go (s_tswI (tgt := 113) rfl (by rw [qs29_7]; decide) (by rw [qs29_7]; decide) (by rw [qs29_7]; rfl) rfl) ?_
    exact XR.forget (L2 := [some (.ref 0), some (.int a0), some (.int a1)]) ⟨rfl, ⟨rfl, ⟨rfl, trivial⟩⟩⟩ (kb_t_size_113 L0 hf)
  replace hf := xi_neg hf qs29_7
  by_cases qs29_8 : a0 = 8
  · replace hf := xi_pos hf qs29_8
    refine XS.go (s_tswI (tgt := 113) rfl (by rw [qs29_8]; decide) (by rw [qs29_8]; decide) (by rw [qs29_8]; rfl) rfl) ?_
    exact XR.forget (L2 := [some (.ref 0), some (.int a0), some (.int a1)]) ⟨rfl, ⟨rfl, ⟨rfl, trivial⟩⟩⟩ (kb_t_size_113 L0 hf)
  replace hf := xi_neg hf qs29_8
  by_cases qs29_9 : a0 = 9
  · replace hf := xi_pos hf qs29_9
    refine XS.go (s_tswI (tgt := 129) rfl (by rw [qs29_9]; decide) (by rw [qs29_9]; decide) (by rw [qs29_9]; rfl) rfl) ?_
    refine XS.go (s_aloadn rfl rfl rfl) ?_
    replace hf := xb_some hf
    obtain ⟨b51, qr52, hf⟩ := hf
    refine XS.go (s_getr rfl xf11_36 (LY.lt L0 (by decide)) (LY.k0 L0) (by decide) rfl qr52) ?_
    replace hf := xi_none hf
    obtain ⟨qk53, hf⟩ := hf
    replace hf := xb_some hf
    obtain ⟨b54, qr55, hf⟩ := hf
    refine XS.go (s_getr rfl xf11_128 qk53.1 qk53.2 (by decide) rfl qr55) ?_
    refine XS.go (s_iloadn rfl rfl rfl) ?_
    replace hf := xi_none hf
    obtain ⟨qk56, hf⟩ := hf
    replace hf := xb_some hf
    obtain ⟨r57, e58, hf⟩ := hf
    refine r_callv rfl xvX4_at xm11_134 (kf_g_at (d := d) L0 e58) qk56.1 qk56.2 (by decide) rfl rfl (dl0 (by decide)) (by decide) (Nat.le_of_ble_eq_true rfl) ?_
    rintro _ _ ⟨⟨rfl, rfl⟩, L59⟩
    replace hf := xb_some hf
    obtain ⟨b60, qo61, hf⟩ := hf
    try rw [qo61]
    replace hf := xb_some hf
    obtain ⟨r62, e63, hf⟩ := hf
    refine r_calls rfl xsX11_memberCount xm11_145 (kf_t_memberCount (d := d) L59 e63) rfl rfl (dl0 (by decide)) (by decide) (Nat.le_of_ble_eq_true rfl) ?_
    rintro _ _ ⟨⟨rfl, rfl⟩, L64⟩
    cases hf
    exact XR.reti rfl rfl (fun hret => ⟨_, hret, ⟨rfl, rfl⟩, L64⟩)
  replace hf := xi_neg hf qs29_9
  have qs29_o : (a0).toInt < 0 ∨ 9 < (a0).toInt := by
    refine tsw_out 0 9 (by decide) ?_
    intro k h1 h2
    have z : k = 0 ∨ k = 1 ∨ k = 2 ∨ k = 3 ∨ k = 4 ∨ k = 5 ∨ k = 6 ∨ k = 7 ∨ k = 8 ∨ k = 9 := by omega
    rcases z with rfl | rfl | rfl | rfl | rfl | rfl | rfl | rfl | rfl | rfl
    · exact qs29_0
    · exact qs29_1
    · exact qs29_2
    · exact qs29_3
    · exact qs29_4
    · exact qs29_5
    · exact qs29_6
    · exact qs29_7
    · exact qs29_8
    · exact qs29_9
  refine XS.go (s_tswO (tgt := 144) rfl qs29_o rfl) ?_
  refine XS.go (s_iconst (v := (-1)) rfl rfl) ?_
  cases hf
  exact XR.reti rfl rfl (fun hret => ⟨_, hret, ⟨rfl, rfl⟩, L0⟩)
def b_t_structOrTable_29 (y0 : Option Nat) (h : XH) : Option (Option Nat × XH) := (some (y0, h))
set_option maxRecDepth 20000 in
theorem kb_t_structOrTable_29 {l : Launch} {G : XG} {d : Nat} {y0 : Option Nat} {h : XH} {r : Option Nat × XH} (L0 : LY h) (hf : b_t_structOrTable_29 y0 h = some r) : XR l G xEX11_structOrTable (d + 1) (29, [none, none, none], [(va_rf y0)], h) (fun C => ∃ v, xRet xEX11_structOrTable C v ∧ (C.2.2.2 = r.2 ∧ v = some (va_rf r.1)) ∧ LY r.2) := by
  unfold b_t_structOrTable_29 at hf
  cases hf
  exact XR.reta (o := y0) rfl rfl (fun hret => ⟨_, hret, ⟨rfl, rfl⟩, L0⟩)
def f_t_structOrTable (a0 : Int32) (a1 : Int32) (h : XH) : Option (Option Nat × XH) := (if a0 = 0 then (Option.bind (hr h 0 4) fun b2 => (if b2 < hz h ∧ hk h b2 = 9 then (Option.bind (hr h b2 1) fun b5 => (if b5 < hz h ∧ hk h b5 = 4 then (Option.bind (f_g_at b5 a1 h) fun r8 => (b_t_structOrTable_29 r8.1 r8.2)) else none)) else none)) else (Option.bind (hr h 0 4) fun b11 => (if b11 < hz h ∧ hk h b11 = 9 then (Option.bind (hr h b11 0) fun b14 => (if b14 < hz h ∧ hk h b14 = 4 then (Option.bind (f_g_at b14 a1 h) fun r17 => (b_t_structOrTable_29 r17.1 r17.2)) else none)) else none)))
set_option maxRecDepth 20000 in
theorem kf_t_structOrTable {l : Launch} {G : XG} {d : Nat} {a0 : Int32} {a1 : Int32} {h : XH} {r : Option Nat × XH} (L0 : LY h) (hf : f_t_structOrTable a0 a1 h = some r) : XC l G xEX11_structOrTable (d + 1) [.ref 0, .int a0, .int a1] h (fun v h2 => (h2 = r.2 ∧ v = some (va_rf r.1)) ∧ LY r.2) := by
  refine XC.virt xvX11_structOrTable (Nat.le_of_ble_eq_true rfl) ?_
  unfold f_t_structOrTable at hf
  refine XR.norm (L3 := [some (.ref 0), some (.int a0), some (.int a1)]) rfl ?_
  refine XS.go (s_iloadn rfl rfl rfl) ?_
  refine r_if_eq (tgt := 18) rfl rfl (fun qc1 => ?_) (fun qc1 => ?_)
  · replace hf := xi_pos hf qc1
    refine XS.go (s_aloadn rfl rfl rfl) ?_
    replace hf := xb_some hf
    obtain ⟨b2, qr3, hf⟩ := hf
    refine XS.go (s_getr rfl xf11_36 (LY.lt L0 (by decide)) (LY.k0 L0) (by decide) rfl qr3) ?_
    replace hf := xi_none hf
    obtain ⟨qk4, hf⟩ := hf
    replace hf := xb_some hf
    obtain ⟨b5, qr6, hf⟩ := hf
    refine XS.go (s_getr rfl xf11_116 qk4.1 qk4.2 (by decide) rfl qr6) ?_
    refine XS.go (s_iloadn rfl rfl rfl) ?_
    replace hf := xi_none hf
    obtain ⟨qk7, hf⟩ := hf
    replace hf := xb_some hf
    obtain ⟨r8, e9, hf⟩ := hf
    refine r_callv rfl xvX4_at xm11_134 (kf_g_at (d := d) L0 e9) qk7.1 qk7.2 (by decide) rfl rfl (dl0 (by decide)) (by decide) (Nat.le_of_ble_eq_true rfl) ?_
    rintro _ _ ⟨⟨rfl, rfl⟩, L10⟩
    exact XR.forget (L2 := [none, none, none]) trivial (kb_t_structOrTable_29 L10 hf)
  · replace hf := xi_neg hf qc1
    refine XS.go (s_aloadn rfl rfl rfl) ?_
    replace hf := xb_some hf
    obtain ⟨b11, qr12, hf⟩ := hf
    refine XS.go (s_getr rfl xf11_36 (LY.lt L0 (by decide)) (LY.k0 L0) (by decide) rfl qr12) ?_
    replace hf := xi_none hf
    obtain ⟨qk13, hf⟩ := hf
    replace hf := xb_some hf
    obtain ⟨b14, qr15, hf⟩ := hf
    refine XS.go (s_getr rfl xf11_125 qk13.1 qk13.2 (by decide) rfl qr15) ?_
    refine XS.go (s_iloadn rfl rfl rfl) ?_
    replace hf := xi_none hf
    obtain ⟨qk16, hf⟩ := hf
    replace hf := xb_some hf
    obtain ⟨r17, e18, hf⟩ := hf
    refine r_callv rfl xvX4_at xm11_134 (kf_g_at (d := d) L0 e18) qk16.1 qk16.2 (by decide) rfl rfl (dl0 (by decide)) (by decide) (Nat.le_of_ble_eq_true rfl) ?_
    rintro _ _ ⟨⟨rfl, rfl⟩, L19⟩
    refine XS.go (s_goto (tgt := 29) rfl rfl) ?_
    exact XR.forget (L2 := [none, none, none]) trivial (kb_t_structOrTable_29 L19 hf)
def f_t_field (a0 : Int32) (a1 : Int32) (a2 : Int32) (a3 : Int32) (h : XH) : Option (Int32 × XH) := (Option.bind (f_t_structOrTable a0 a1 h) fun r1 => (Option.bind (r1.1) fun b4 => (Option.bind (f_t_fieldOf b4 a2 r1.2) fun r6 => (Option.elim (r6.1) (some ((-1), r6.2)) fun b10 => (if a3 = 0 then (if b10 < hz r6.2 ∧ hk r6.2 b10 = 3 then (some ((hi r6.2 b10 3), r6.2)) else none) else (if a3 = 1 then (if b10 < hz r6.2 ∧ hk r6.2 b10 = 3 then (some ((hi r6.2 b10 4), r6.2)) else none) else (if a3 = 2 then (if b10 < hz r6.2 ∧ hk r6.2 b10 = 3 then (some ((hi r6.2 b10 5), r6.2)) else none) else (if a3 = 3 then (if b10 < hz r6.2 ∧ hk r6.2 b10 = 3 then (some ((hi r6.2 b10 6), r6.2)) else none) else (if a3 = 4 then (if b10 < hz r6.2 ∧ hk r6.2 b10 = 3 then (if (hi r6.2 b10 7) = 0 then (some (0, r6.2)) else (some (1, r6.2))) else none) else (some ((-1), r6.2)))))))))))
set_option maxRecDepth 20000 in
theorem kf_t_field {l : Launch} {G : XG} {d : Nat} {a0 : Int32} {a1 : Int32} {a2 : Int32} {a3 : Int32} {h : XH} {r : Int32 × XH} (L0 : LY h) (hf : f_t_field a0 a1 a2 a3 h = some r) : XC l G xEX11_field (d + 2) [.ref 0, .int a0, .int a1, .int a2, .int a3] h (fun v h2 => (h2 = r.2 ∧ v = some (.int r.1)) ∧ LY r.2) := by
  refine XC.virt xvX11_field (Nat.le_of_ble_eq_true rfl) ?_
  unfold f_t_field at hf
  refine XR.norm (L3 := [some (.ref 0), some (.int a0), some (.int a1), some (.int a2), some (.int a3), none]) rfl ?_
  refine XS.go (s_aloadn rfl rfl rfl) ?_
  refine XS.go (s_iloadn rfl rfl rfl) ?_
  refine XS.go (s_iloadn rfl rfl rfl) ?_
  replace hf := xb_some hf
  obtain ⟨r1, e2, hf⟩ := hf
  refine r_callv rfl xvX11_structOrTable xm11_163 (kf_t_structOrTable (d := d) L0 e2) (LY.lt L0 (by decide)) (LY.k0 L0) (by decide) rfl rfl (dl (by decide)) (by decide) (Nat.le_of_ble_eq_true rfl) ?_
  rintro _ _ ⟨⟨rfl, rfl⟩, L3⟩
  refine XS.go (s_iloadn rfl rfl rfl) ?_
  replace hf := xb_some hf
  obtain ⟨b4, qo5, hf⟩ := hf
  try rw [qo5]
  replace hf := xb_some hf
  obtain ⟨r6, e7, hf⟩ := hf
  refine r_calls rfl xsX11_fieldOf xm11_167 (kf_t_fieldOf (d := d) L3 e7) rfl rfl (dl (by decide)) (by decide) (Nat.le_of_ble_eq_true rfl) ?_
  rintro _ _ ⟨⟨rfl, rfl⟩, L8⟩
  refine XS.go (XS.lcl (L3 := [some (.ref 0), some (.int a0), some (.int a1), some (.int a2), some (.int a3), some (va_rf r6.1)]) (s_astoreO rfl (Nat.le_of_ble_eq_true rfl)) rfl) ?_
  refine XS.go (s_aloadO rfl rfl) ?_
  refine r_ifnonnull (tgt := 19) rfl rfl (fun qn9 => ?_) (fun b10 qn9 => ?_)
  · replace hf := xo_none hf qn9
    try rw [qn9]
    refine XS.go (s_iconst (v := (-1)) rfl rfl) ?_
    cases hf
    exact XR.reti rfl rfl (fun hret => ⟨_, hret, ⟨rfl, rfl⟩, L8⟩)
  · replace hf := xo_some hf qn9
    try rw [qn9]
    refine XS.go (s_iload rfl rfl) ?_
    by_cases qs11_0 : a3 = 0
    · replace hf := xi_pos hf qs11_0
      refine XS.go (s_tswI (tgt := 56) rfl (by rw [qs11_0]; decide) (by rw [qs11_0]; decide) (by rw [qs11_0]; rfl) rfl) ?_
      refine XS.go (s_aload rfl rfl) ?_
      replace hf := xi_none hf
      obtain ⟨qk12, hf⟩ := hf
      refine XS.go (s_getie rfl xf11_171 qk12.1 qk12.2 (by decide) rfl rfl) ?_
      cases hf
      exact XR.reti rfl rfl (fun hret => ⟨_, hret, ⟨rfl, rfl⟩, L8⟩)
    replace hf := xi_neg hf qs11_0
    by_cases qs11_1 : a3 = 1
    · replace hf := xi_pos hf qs11_1
      refine XS.go (s_tswI (tgt := 62) rfl (by rw [qs11_1]; decide) (by rw [qs11_1]; decide) (by rw [qs11_1]; rfl) rfl) ?_
      refine XS.go (s_aload rfl rfl) ?_
      replace hf := xi_none hf
      obtain ⟨qk13, hf⟩ := hf
      refine XS.go (s_getie rfl xf11_176 qk13.1 qk13.2 (by decide) rfl rfl) ?_
      cases hf
      exact XR.reti rfl rfl (fun hret => ⟨_, hret, ⟨rfl, rfl⟩, L8⟩)
    replace hf := xi_neg hf qs11_1
    by_cases qs11_2 : a3 = 2
    · replace hf := xi_pos hf qs11_2
      refine XS.go (s_tswI (tgt := 68) rfl (by rw [qs11_2]; decide) (by rw [qs11_2]; decide) (by rw [qs11_2]; rfl) rfl) ?_
      refine XS.go (s_aload rfl rfl) ?_
      replace hf := xi_none hf
      obtain ⟨qk14, hf⟩ := hf
      refine XS.go (s_getie rfl xf11_179 qk14.1 qk14.2 (by decide) rfl rfl) ?_
      cases hf
      exact XR.reti rfl rfl (fun hret => ⟨_, hret, ⟨rfl, rfl⟩, L8⟩)
    replace hf := xi_neg hf qs11_2
    by_cases qs11_3 : a3 = 3
    · replace hf := xi_pos hf qs11_3
      refine XS.go (s_tswI (tgt := 74) rfl (by rw [qs11_3]; decide) (by rw [qs11_3]; decide) (by rw [qs11_3]; rfl) rfl) ?_
      refine XS.go (s_aload rfl rfl) ?_
      replace hf := xi_none hf
      obtain ⟨qk15, hf⟩ := hf
      refine XS.go (s_getie rfl xf11_182 qk15.1 qk15.2 (by decide) rfl rfl) ?_
      cases hf
      exact XR.reti rfl rfl (fun hret => ⟨_, hret, ⟨rfl, rfl⟩, L8⟩)
    replace hf := xi_neg hf qs11_3
    by_cases qs11_4 : a3 = 4
    · replace hf := xi_pos hf qs11_4
      refine XS.go (s_tswI (tgt := 80) rfl (by rw [qs11_4]; decide) (by rw [qs11_4]; decide) (by rw [qs11_4]; rfl) rfl) ?_
      refine XS.go (s_aload rfl rfl) ?_
      replace hf := xi_none hf
      obtain ⟨qk16, hf⟩ := hf
      refine XS.go (s_getze rfl xf11_185 qk16.1 qk16.2 (by decide) rfl rfl) ?_
      refine r_if_eq (tgt := 92) rfl rfl (fun qc17 => ?_) (fun qc17 => ?_)
      · replace hf := xi_pos hf qc17
        refine XS.go (s_iconst (v := 0) rfl rfl) ?_
        cases hf
        exact XR.reti rfl rfl (fun hret => ⟨_, hret, ⟨rfl, rfl⟩, L8⟩)
      · replace hf := xi_neg hf qc17
        refine XS.go (s_iconst (v := 1) rfl rfl) ?_
        refine XS.go (s_goto (tgt := 93) rfl rfl) ?_
        cases hf
        exact XR.reti rfl rfl (fun hret => ⟨_, hret, ⟨rfl, rfl⟩, L8⟩)
    replace hf := xi_neg hf qs11_4
    have qs11_o : (a3).toInt < 0 ∨ 4 < (a3).toInt := by
      refine tsw_out 0 4 (by decide) ?_
      intro k h1 h2
      have z : k = 0 ∨ k = 1 ∨ k = 2 ∨ k = 3 ∨ k = 4 := by omega
      rcases z with rfl | rfl | rfl | rfl | rfl
      · exact qs11_0
      · exact qs11_1
      · exact qs11_2
      · exact qs11_3
      · exact qs11_4
    refine XS.go (s_tswO (tgt := 94) rfl qs11_o rfl) ?_
    refine XS.go (s_iconst (v := (-1)) rfl rfl) ?_
    cases hf
    exact XR.reti rfl rfl (fun hret => ⟨_, hret, ⟨rfl, rfl⟩, L8⟩)
def f_t_standard (a0 : Int32) (a1 : Int32) (h : XH) : Option (Int64 × XH) := (Option.bind (hr h 0 4) fun b1 => (if b1 < hz h ∧ hk h b1 = 9 then (Option.bind (hr h b1 1) fun b4 => (if b4 < hz h ∧ hk h b4 = 4 then (Option.bind (f_g_at b4 a0 h) fun r7 => (Option.bind (r7.1) fun b10 => (Option.bind (f_t_fieldOf b10 a1 r7.2) fun r12 => (Option.elim (r12.1) (some ((0 : Int64), r12.2)) fun b16 => (if b16 < hz r12.2 ∧ hk r12.2 b16 = 3 then (some ((hj r12.2 b16 8), r12.2)) else none))))) else none)) else none))
set_option maxRecDepth 20000 in
theorem kf_t_standard {l : Launch} {G : XG} {d : Nat} {a0 : Int32} {a1 : Int32} {h : XH} {r : Int64 × XH} (L0 : LY h) (hf : f_t_standard a0 a1 h = some r) : XC l G xEX11_standard (d + 2) [.ref 0, .int a0, .int a1] h (fun v h2 => (h2 = r.2 ∧ v = some (.long r.1)) ∧ LY r.2) := by
  refine XC.virt xvX11_standard (Nat.le_of_ble_eq_true rfl) ?_
  unfold f_t_standard at hf
  refine XR.norm (L3 := [some (.ref 0), some (.int a0), some (.int a1), none]) rfl ?_
  refine XS.go (s_aloadn rfl rfl rfl) ?_
  replace hf := xb_some hf
  obtain ⟨b1, qr2, hf⟩ := hf
  refine XS.go (s_getr rfl xf11_36 (LY.lt L0 (by decide)) (LY.k0 L0) (by decide) rfl qr2) ?_
  replace hf := xi_none hf
  obtain ⟨qk3, hf⟩ := hf
  replace hf := xb_some hf
  obtain ⟨b4, qr5, hf⟩ := hf
  refine XS.go (s_getr rfl xf11_116 qk3.1 qk3.2 (by decide) rfl qr5) ?_
  refine XS.go (s_iloadn rfl rfl rfl) ?_
  replace hf := xi_none hf
  obtain ⟨qk6, hf⟩ := hf
  replace hf := xb_some hf
  obtain ⟨r7, e8, hf⟩ := hf
  refine r_callv rfl xvX4_at xm11_134 (kf_g_at (d := d) L0 e8) qk6.1 qk6.2 (by decide) rfl rfl (dl0 (by decide)) (by decide) (Nat.le_of_ble_eq_true rfl) ?_
  rintro _ _ ⟨⟨rfl, rfl⟩, L9⟩
  refine XS.go (s_iloadn rfl rfl rfl) ?_
  replace hf := xb_some hf
  obtain ⟨b10, qo11, hf⟩ := hf
  try rw [qo11]
  replace hf := xb_some hf
  obtain ⟨r12, e13, hf⟩ := hf
  refine r_calls rfl xsX11_fieldOf xm11_167 (kf_t_fieldOf (d := d) L9 e13) rfl rfl (dl (by decide)) (by decide) (Nat.le_of_ble_eq_true rfl) ?_
  rintro _ _ ⟨⟨rfl, rfl⟩, L14⟩
  refine XS.go (XS.lcl (L3 := [some (.ref 0), some (.int a0), some (.int a1), some (va_rf r12.1)]) (s_astorenO rfl rfl (Nat.le_of_ble_eq_true rfl)) rfl) ?_
  refine XS.go (s_aloadnO rfl rfl rfl) ?_
  refine r_ifnonnull (tgt := 24) rfl rfl (fun qn15 => ?_) (fun b16 qn15 => ?_)
  · replace hf := xo_none hf qn15
    try rw [qn15]
    refine XS.go (s_lconst (v := 0) rfl rfl) ?_
    refine XS.go (s_goto (tgt := 28) rfl rfl) ?_
    cases hf
    exact XR.retl rfl rfl (fun hret => ⟨_, hret, ⟨rfl, rfl⟩, L14⟩)
  · replace hf := xo_some hf qn15
    try rw [qn15]
    refine XS.go (s_aloadn rfl rfl rfl) ?_
    replace hf := xi_none hf
    obtain ⟨qk17, hf⟩ := hf
    refine XS.go (s_getje rfl xf11_193 qk17.1 qk17.2 (by decide) rfl rfl) ?_
    cases hf
    exact XR.retl rfl rfl (fun hret => ⟨_, hret, ⟨rfl, rfl⟩, L14⟩)
def f_t_find (a0 : Int32) (a1 : Int32) (h : XH) : Option (Int32 × XH) := (Option.bind (f_t_structOrTable a0 a1 (hsi h 1 1 0)) fun r1 => (Option.elim (r1.1) (some ((-1), r1.2)) fun b5 => (if 16 < (hi h 1 1) then (some ((-1), r1.2)) else (Option.bind (f_b_hasZero 1 (hi h 1 1) r1.2) fun r7 => (if r7.1 = 0 then (Option.bind (f_b_packed 1 0 (hi h 1 1) r7.2) fun r11 => (Option.bind (f_b_packed 1 8 (hi h 1 1) r11.2) fun r14 => (if b5 < hz r14.2 ∧ hk r14.2 b5 = 2 then (Option.bind (f_d_fieldNamed b5 r11.1 r14.1 r14.2) fun r18 => (some (r18.1, r18.2))) else none))) else (some ((-1), r7.2)))))))
set_option maxRecDepth 20000 in
theorem kf_t_find {l : Launch} {G : XG} {d : Nat} {a0 : Int32} {a1 : Int32} {h : XH} {r : Int32 × XH} (L0 : LY h) (hf : f_t_find a0 a1 h = some r) : XC l G xEX11_find (d + 2) [.ref 0, .int a0, .int a1] h (fun v h2 => (h2 = r.2 ∧ v = some (.int r.1)) ∧ LY r.2) := by
  refine XC.virt xvX11_find (Nat.le_of_ble_eq_true rfl) ?_
  unfold f_t_find at hf
  refine XR.norm (L3 := [some (.ref 0), some (.int a0), some (.int a1), none, none]) rfl ?_
  refine XS.go (s_aloadn rfl rfl rfl) ?_
  refine XS.go (s_getr rfl xf11_10 (LY.lt L0 (by decide)) (LY.k0 L0) (by decide) rfl (LY.r0_0 L0)) ?_
  refine XS.go (s_getie rfl xf11_73 (LY.lt L0 (by decide)) (LY.k1 L0) (by decide) rfl rfl) ?_
  refine XS.go (XS.lcl (L3 := [some (.ref 0), some (.int a0), some (.int a1), some (.int (hi h 1 1)), none]) (s_istoren rfl rfl (Nat.le_of_ble_eq_true rfl)) rfl) ?_
  refine XS.go (s_aloadn rfl rfl rfl) ?_
  refine XS.go (s_getr rfl xf11_10 (LY.lt L0 (by decide)) (LY.k0 L0) (by decide) rfl (LY.r0_0 L0)) ?_
  refine XS.go (s_iconst (v := 0) rfl rfl) ?_
  refine XS.go (s_puti rfl xf11_73 (LY.lt L0 (by decide)) (LY.k1 L0) (by decide) rfl (Or.inl rfl)) ?_
  refine XS.go (s_aloadn rfl rfl rfl) ?_
  refine XS.go (s_iloadn rfl rfl rfl) ?_
  refine XS.go (s_iloadn rfl rfl rfl) ?_
  replace hf := xb_some hf
  obtain ⟨r1, e2, hf⟩ := hf
  refine r_callv rfl xvX11_structOrTable xm11_163 (kf_t_structOrTable (d := d) (by simp only [LY_si, LY_sj]; exact L0) e2) (LY.lt (by simp only [LY_si, LY_sj]; exact L0) (by decide)) (LY.k0 (by simp only [LY_si, LY_sj]; exact L0)) (by decide) rfl rfl (dl (by decide)) (by decide) (Nat.le_of_ble_eq_true rfl) ?_
  rintro _ _ ⟨⟨rfl, rfl⟩, L3⟩
  refine XS.go (XS.lcl (L3 := [some (.ref 0), some (.int a0), some (.int a1), some (.int (hi h 1 1)), some (va_rf r1.1)]) (s_astoreO rfl (Nat.le_of_ble_eq_true rfl)) rfl) ?_
  refine XS.go (s_aloadO rfl rfl) ?_
  refine r_ifnull (tgt := 46) rfl rfl (fun qn4 => ?_) (fun b5 qn4 => ?_)
  · replace hf := xo_none hf qn4
    try rw [qn4]
    refine XS.go (s_iconst (v := (-1)) rfl rfl) ?_
    cases hf
    exact XR.reti rfl rfl (fun hret => ⟨_, hret, ⟨rfl, rfl⟩, L3⟩)
  · replace hf := xo_some hf qn4
    try rw [qn4]
    refine XS.go (s_iloadn rfl rfl rfl) ?_
    refine XS.go (s_bipush (v := 16) rfl rfl) ?_
    refine r_icmp_gt (tgt := 46) rfl rfl (fun qc6 => ?_) (fun qc6 => ?_)
    · replace hf := xi_pos hf qc6
      refine XS.go (s_iconst (v := (-1)) rfl rfl) ?_
      cases hf
      exact XR.reti rfl rfl (fun hret => ⟨_, hret, ⟨rfl, rfl⟩, L3⟩)
    · replace hf := xi_neg hf qc6
      refine XS.go (s_aloadn rfl rfl rfl) ?_
      refine XS.go (s_getr rfl xf11_10 (LY.lt L3 (by decide)) (LY.k0 L3) (by decide) rfl (LY.r0_0 L3)) ?_
      refine XS.go (s_iloadn rfl rfl rfl) ?_
      replace hf := xb_some hf
      obtain ⟨r7, e8, hf⟩ := hf
      refine r_callv rfl xvX1_hasZero xm11_197 (kf_b_hasZero (d := d) L3 e8) (LY.lt L3 (by decide)) (LY.k1 L3) (by decide) rfl rfl (dl (by decide)) (by decide) (Nat.le_of_ble_eq_true rfl) ?_
      rintro _ _ ⟨⟨rfl, rfl⟩, L9⟩
      refine r_if_eq (tgt := 48) rfl rfl (fun qc10 => ?_) (fun qc10 => ?_)
      · replace hf := xi_pos hf qc10
        refine XS.go (s_aload rfl rfl) ?_
        refine XS.go (s_aloadn rfl rfl rfl) ?_
        refine XS.go (s_getr rfl xf11_10 (LY.lt L9 (by decide)) (LY.k0 L9) (by decide) rfl (LY.r0_0 L9)) ?_
        refine XS.go (s_iconst (v := 0) rfl rfl) ?_
        refine XS.go (s_iloadn rfl rfl rfl) ?_
        replace hf := xb_some hf
        obtain ⟨r11, e12, hf⟩ := hf
        refine r_callv rfl xvX1_packed xm11_201 (kf_b_packed (d := d) L9 e12) (LY.lt L9 (by decide)) (LY.k1 L9) (by decide) rfl rfl (dl (by decide)) (by decide) (Nat.le_of_ble_eq_true rfl) ?_
        rintro _ _ ⟨⟨rfl, rfl⟩, L13⟩
        refine XS.go (s_aloadn rfl rfl rfl) ?_
        refine XS.go (s_getr rfl xf11_10 (LY.lt L13 (by decide)) (LY.k0 L13) (by decide) rfl (LY.r0_0 L13)) ?_
        refine XS.go (s_bipush (v := 8) rfl rfl) ?_
        refine XS.go (s_iloadn rfl rfl rfl) ?_
        replace hf := xb_some hf
        obtain ⟨r14, e15, hf⟩ := hf
        refine r_callv rfl xvX1_packed xm11_201 (kf_b_packed (d := d) L13 e15) (LY.lt L13 (by decide)) (LY.k1 L13) (by decide) rfl rfl (dl (by decide)) (by decide) (Nat.le_of_ble_eq_true rfl) ?_
        rintro _ _ ⟨⟨rfl, rfl⟩, L16⟩
        replace hf := xi_none hf
        obtain ⟨qk17, hf⟩ := hf
        replace hf := xb_some hf
        obtain ⟨r18, e19, hf⟩ := hf
        refine r_callv rfl xvX2_fieldNamed xm11_205 (kf_d_fieldNamed (d := d) L16 e19) qk17.1 qk17.2 (by decide) rfl rfl (dl0 (by decide)) (by decide) (Nat.le_of_ble_eq_true rfl) ?_
        rintro _ _ ⟨⟨rfl, rfl⟩, L20⟩
        cases hf
        exact XR.reti rfl rfl (fun hret => ⟨_, hret, ⟨rfl, rfl⟩, L20⟩)
      · replace hf := xi_neg hf qc10
        refine XS.go (s_iconst (v := (-1)) rfl rfl) ?_
        cases hf
        exact XR.reti rfl rfl (fun hret => ⟨_, hret, ⟨rfl, rfl⟩, L9⟩)
def f_t_push (a0 : Int64) (h : XH) : Option (Int32 × XH) := (Option.bind (f_w_add 5 a0 h) fun r1 => (some (r1.1, r1.2)))
set_option maxRecDepth 20000 in
theorem kf_t_push {l : Launch} {G : XG} {d : Nat} {a0 : Int64} {h : XH} {r : Int32 × XH} (L0 : LY h) (hf : f_t_push a0 h = some r) : XC l G xEX11_push (d + 1) [.ref 0, .long a0] h (fun v h2 => (h2 = r.2 ∧ v = some (.int r.1)) ∧ LY r.2) := by
  refine XC.virt xvX11_push (Nat.le_of_ble_eq_true rfl) ?_
  unfold f_t_push at hf
  refine XR.norm (L3 := [some (.ref 0), some (.long a0), none]) rfl ?_
  refine XS.go (s_aloadn rfl rfl rfl) ?_
  refine XS.go (s_getr rfl xf11_22 (LY.lt L0 (by decide)) (LY.k0 L0) (by decide) rfl (LY.r0_2 L0)) ?_
  refine XS.go (s_lloadn rfl rfl rfl) ?_
  replace hf := xb_some hf
  obtain ⟨r1, e2, hf⟩ := hf
  refine r_callv rfl xvX10_add xm11_209 (kf_w_add (d := d) L0 e2) (LY.lt L0 (by decide)) (LY.k5 L0) (by decide) rfl rfl (dl0 (by decide)) (by decide) (Nat.le_of_ble_eq_true rfl) ?_
  rintro _ _ ⟨⟨rfl, rfl⟩, L3⟩
  cases hf
  exact XR.reti rfl rfl (fun hret => ⟨_, hret, ⟨rfl, rfl⟩, L3⟩)
def f_t_text (h : XH) : Option (Sum Int32 Nat × XH) := (Option.bind (f_u_isOpen (hsi h 1 1 0)) fun r1 => (if r1.1 = 0 then (Option.bind (f_u_addText 1 (hi h 1 1) r1.2) fun r5 => (if ¬ r5.1 = (-1) then (some (Sum.inl r5.1, r5.2)) else (if hz r5.2 < 1000000 then (some (Sum.inr 2, hthr r5.2)) else none))) else (if hz r1.2 < 1000000 then (some (Sum.inr 1, hthr r1.2)) else none)))
set_option maxRecDepth 20000 in
theorem kf_t_text {l : Launch} {G : XG} {d : Nat} {h : XH} {r : Sum Int32 Nat × XH} (hl : l.stackTraces = false) (L0 : LY h) (hf : f_t_text h = some r) : (∃ x, r.1 = Sum.inl x ∧ XC l G xEX11_text (d + 6) [.ref 0] h (fun v h2 => (h2 = r.2 ∧ v = some (.int x)) ∧ LY r.2)) ∨ ∃ k E, r.1 = Sum.inr k ∧ xXs[k]? = some E ∧ XCx l G xEX11_text (d + 6) [.ref 0] h E (fun h2 => h2 = r.2 ∧ LY r.2) := by
  refine xe_of (R := Int32) (V := fun x => some (.int x)) hl xvX11_text rfl (Nat.le_of_ble_eq_true rfl) (by omega) ?_
  unfold f_t_text at hf
  refine XR.norm (L3 := [some (.ref 0), none, none]) rfl ?_
  refine XS.go (s_aloadn rfl rfl rfl) ?_
  refine XS.go (s_getr rfl xf11_10 (LY.lt L0 (by decide)) (LY.k0 L0) (by decide) rfl (LY.r0_0 L0)) ?_
  refine XS.go (s_getie rfl xf11_73 (LY.lt L0 (by decide)) (LY.k1 L0) (by decide) rfl rfl) ?_
  refine XS.go (XS.lcl (L3 := [some (.ref 0), some (.int (hi h 1 1)), none]) (s_istoren rfl rfl (Nat.le_of_ble_eq_true rfl)) rfl) ?_
  refine XS.go (s_aloadn rfl rfl rfl) ?_
  refine XS.go (s_getr rfl xf11_10 (LY.lt L0 (by decide)) (LY.k0 L0) (by decide) rfl (LY.r0_0 L0)) ?_
  refine XS.go (s_iconst (v := 0) rfl rfl) ?_
  refine XS.go (s_puti rfl xf11_73 (LY.lt L0 (by decide)) (LY.k1 L0) (by decide) rfl (Or.inl rfl)) ?_
  refine XS.go (s_aloadn rfl rfl rfl) ?_
  refine XS.go (s_getr rfl xf11_46 (LY.lt (by simp only [LY_si, LY_sj]; exact L0) (by decide)) (LY.k0 (by simp only [LY_si, LY_sj]; exact L0)) (by decide) rfl (LY.r0_6 (by simp only [LY_si, LY_sj]; exact L0))) ?_
  replace hf := xb_some hf
  obtain ⟨r1, e2, hf⟩ := hf
  refine r_callv rfl xvX0_isOpen xm11_213 (kf_u_isOpen (d := d) (by simp only [LY_si, LY_sj]; exact L0) e2) (LY.lt (by simp only [LY_si, LY_sj]; exact L0) (by decide)) (LY.k1244 (by simp only [LY_si, LY_sj]; exact L0)) (by decide) rfl rfl (dl0 (by decide)) (by decide) (Nat.le_of_ble_eq_true rfl) ?_
  rintro _ _ ⟨⟨rfl, rfl⟩, L3⟩
  refine r_if_eq (tgt := 36) rfl rfl (fun qc4 => ?_) (fun qc4 => ?_)
  · replace hf := xi_pos hf qc4
    refine XS.go (s_aloadn rfl rfl rfl) ?_
    refine XS.go (s_getr rfl xf11_46 (LY.lt L3 (by decide)) (LY.k0 L3) (by decide) rfl (LY.r0_6 L3)) ?_
    refine XS.go (s_aloadn rfl rfl rfl) ?_
    refine XS.go (s_getr rfl xf11_10 (LY.lt L3 (by decide)) (LY.k0 L3) (by decide) rfl (LY.r0_0 L3)) ?_
    refine XS.go (s_iloadn rfl rfl rfl) ?_
    replace hf := xb_some hf
    obtain ⟨r5, e6, hf⟩ := hf
    refine r_callv rfl xvX0_addText xm11_221 (kf_u_addText (d := d) L3 e6) (LY.lt L3 (by decide)) (LY.k1244 L3) (by decide) rfl rfl (dl (by decide)) (by decide) (Nat.le_of_ble_eq_true rfl) ?_
    rintro _ _ ⟨⟨rfl, rfl⟩, L7⟩
    refine XS.go (XS.lcl (L3 := [some (.ref 0), some (.int (hi h 1 1)), some (.int r5.1)]) (s_istoren rfl rfl (Nat.le_of_ble_eq_true rfl)) rfl) ?_
    refine XS.go (s_iloadn rfl rfl rfl) ?_
    refine XS.go (s_iconst (v := (-1)) rfl rfl) ?_
    refine r_icmp_ne (tgt := 64) rfl rfl (fun qc8 => ?_) (fun qc8 => ?_)
    · replace hf := xi_pos hf qc8
      refine XS.go (s_iloadn rfl rfl rfl) ?_
      cases hf
      exact XR.reti rfl rfl (fun hret => Or.inl ⟨_, hret, ⟨rfl, ⟨_, rfl, rfl⟩⟩, L7⟩)
    · replace hf := xi_neg hf qc8
      replace hf := xi_none hf
      obtain ⟨qk9, hf⟩ := hf
      cases hf
      exact XR.here (Or.inr ⟨2, _, rfl, rfl, ⟨225, 227, 229, 20, _, rfl, xthr2, ⟨⟨rfl, rfl, rfl⟩, Or.inl ⟨rfl, rfl, rfl⟩⟩, qk9⟩, rfl, LY.new L7 qk9⟩)
  · replace hf := xi_neg hf qc4
    replace hf := xi_none hf
    obtain ⟨qk10, hf⟩ := hf
    cases hf
    exact XR.here (Or.inr ⟨1, _, rfl, rfl, ⟨216, 218, 220, 19, _, rfl, xthr1, ⟨⟨rfl, rfl, rfl⟩, Or.inl ⟨rfl, rfl, rfl⟩⟩, qk10⟩, rfl, LY.new L3 qk10⟩)
def s_t_areLeaves_16 (K16 : Nat → Int32 → Int32 → XH → Option (Int32 × XH)) (x1 : Nat) (x2 : Int32) (x3 : Int32) (h : XH) : Option (Int32 × XH) := (if x2 ≤ x3 then (some (1, h)) else (if x1 < hz h ∧ hk h x1 = 2 then (if ¬ (hi h x1 11) = 0 then (Option.bind (f_d_leafScalar x1 (x3 - x3 / (hi h x1 11) * (hi h x1 11)) h) fun r4 => (Option.bind (f_w_at 5 x3 r4.2) fun r7 => (Option.bind (f_t_isValue r4.1 r7.1 r7.2) fun r10 => (if ¬ r10.1 = 0 then (K16 x1 x2 (x3 + 1) r10.2) else (some (0, r10.2)))))) else none) else none))
set_option maxRecDepth 20000 in
theorem ks_t_areLeaves_16 {l : Launch} {G : XG} {d : Nat} {K16 : Nat → Int32 → Int32 → XH → Option (Int32 × XH)} {x1 : Nat} {x2 : Int32} {x3 : Int32} {h : XH} {r : Int32 × XH} (hK16 : ∀ (x1 : Nat) (x2 : Int32) (x3 : Int32) (h : XH), LY h → K16 x1 x2 x3 h = some r → XR l G xEX11_areLeaves (d + 2) (16, [some (.ref 0), some (.ref x1), some (.int x2), some (.int x3)], [], h) (fun C => ∃ v, xRet xEX11_areLeaves C v ∧ (C.2.2.2 = r.2 ∧ v = some (.int r.1)) ∧ LY r.2)) (L0 : LY h) (hf : s_t_areLeaves_16 K16 x1 x2 x3 h = some r) : XR l G xEX11_areLeaves (d + 2) (16, [some (.ref 0), some (.ref x1), some (.int x2), some (.int x3)], [], h) (fun C => ∃ v, xRet xEX11_areLeaves C v ∧ (C.2.2.2 = r.2 ∧ v = some (.int r.1)) ∧ LY r.2) := by
  unfold s_t_areLeaves_16 at hf
  refine XS.go (s_iloadn rfl rfl rfl) ?_
  refine XS.go (s_iloadn rfl rfl rfl) ?_
  refine r_icmp_ge (tgt := 53) rfl rfl (fun qc1 => ?_) (fun qc1 => ?_)
  · replace hf := xi_pos hf qc1
    refine XS.go (s_iconst (v := 1) rfl rfl) ?_
    cases hf
    exact XR.retz rfl rfl (by decide) (fun hret => ⟨_, hret, ⟨rfl, rfl⟩, L0⟩)
  · replace hf := xi_neg hf qc1
    refine XS.go (s_aloadn rfl rfl rfl) ?_
    refine XS.go (s_iloadn rfl rfl rfl) ?_
    refine XS.go (s_aloadn rfl rfl rfl) ?_
    replace hf := xi_none hf
    obtain ⟨qk2, hf⟩ := hf
    refine XS.go (s_getie rfl xf11_255 qk2.1 qk2.2 (by decide) rfl rfl) ?_
    replace hf := xi_none hf
    obtain ⟨qk3, hf⟩ := hf
    refine XS.go (s_irem qk3 rfl) ?_
    replace hf := xb_some hf
    obtain ⟨r4, e5, hf⟩ := hf
    refine r_callv rfl xvX2_leafScalar xm11_272 (kf_d_leafScalar (d := d) L0 e5) qk2.1 qk2.2 (by decide) rfl rfl (dl0 (by decide)) (by decide) (Nat.le_of_ble_eq_true rfl) ?_
    rintro _ _ ⟨⟨rfl, rfl⟩, L6⟩
    refine XS.go (s_aloadn rfl rfl rfl) ?_
    refine XS.go (s_getr rfl xf11_22 (LY.lt L6 (by decide)) (LY.k0 L6) (by decide) rfl (LY.r0_2 L6)) ?_
    refine XS.go (s_iloadn rfl rfl rfl) ?_
    replace hf := xb_some hf
    obtain ⟨r7, e8, hf⟩ := hf
    refine r_callv rfl xvX10_at xm11_261 (kf_w_at (d := d) L6 e8) (LY.lt L6 (by decide)) (LY.k5 L6) (by decide) rfl rfl (dl0 (by decide)) (by decide) (Nat.le_of_ble_eq_true rfl) ?_
    rintro _ _ ⟨⟨rfl, rfl⟩, L9⟩
    replace hf := xb_some hf
    obtain ⟨r10, e11, hf⟩ := hf
    refine r_calls rfl xsX11_isValue xm11_264 (kf_t_isValue (d := d) L9 e11) rfl rfl (dl (by decide)) (by decide) (Nat.le_of_ble_eq_true rfl) ?_
    rintro _ _ ⟨⟨rfl, rfl⟩, L12⟩
    refine r_if_ne (tgt := 47) rfl rfl (fun qc13 => ?_) (fun qc13 => ?_)
    · replace hf := xi_pos hf qc13
      refine XS.go (XS.lcl (L3 := [some (.ref 0), some (.ref x1), some (.int x2), some (.int (x3 + 1))]) (s_inc rfl rfl (Nat.le_of_ble_eq_true rfl)) rfl) ?_
      refine XS.go (s_goto (tgt := 16) rfl rfl) ?_
      exact XR.forget (L2 := [some (.ref 0), some (.ref x1), some (.int x2), some (.int (x3 + 1))]) ⟨rfl, ⟨rfl, ⟨rfl, ⟨rfl, trivial⟩⟩⟩⟩ (hK16 x1 x2 (x3 + 1) _ L12 hf)
    · replace hf := xi_neg hf qc13
      refine XS.go (s_iconst (v := 0) rfl rfl) ?_
      cases hf
      exact XR.retz rfl rfl (by decide) (fun hret => ⟨_, hret, ⟨rfl, rfl⟩, L12⟩)
def b_t_areLeaves_16 : Nat → Nat → Int32 → Int32 → XH → Option (Int32 × XH)
  | 0, _, _, _, _ => none
  | n + 1, x1, x2, x3, h => s_t_areLeaves_16 (b_t_areLeaves_16 n) x1 x2 x3 h
theorem kb_t_areLeaves_16 {l : Launch} {G : XG} {d : Nat} {n : Nat} {x1 : Nat} {x2 : Int32} {x3 : Int32} {h : XH} {r : Int32 × XH} (L0 : LY h) (hf : b_t_areLeaves_16 n x1 x2 x3 h = some r) : XR l G xEX11_areLeaves (d + 2) (16, [some (.ref 0), some (.ref x1), some (.int x2), some (.int x3)], [], h) (fun C => ∃ v, xRet xEX11_areLeaves C v ∧ (C.2.2.2 = r.2 ∧ v = some (.int r.1)) ∧ LY r.2) := by
  induction n generalizing x1 x2 x3 h with
  | zero => cases hf
  | succ n ih => exact ks_t_areLeaves_16 (fun x1 x2 x3 h L0 hf => ih (h := h) (x1 := x1) (x2 := x2) (x3 := x3) L0 hf) L0 hf
def f_t_areLeaves (a0 : Nat) (a1 : Int32) (h : XH) : Option (Int32 × XH) := (if a0 < hz h ∧ hk h a0 = 2 then (if 1 ≤ (hi h a0 11) then (b_t_areLeaves_16 100000 a0 a1 0 h) else (some (0, h))) else none)
set_option maxRecDepth 20000 in
theorem kf_t_areLeaves {l : Launch} {G : XG} {d : Nat} {a0 : Nat} {a1 : Int32} {h : XH} {r : Int32 × XH} (L0 : LY h) (hf : f_t_areLeaves a0 a1 h = some r) : XC l G xEX11_areLeaves (d + 2) [.ref 0, .ref a0, .int a1] h (fun v h2 => (h2 = r.2 ∧ v = some (.int r.1)) ∧ LY r.2) := by
  refine XC.virt xvX11_areLeaves (Nat.le_of_ble_eq_true rfl) ?_
  unfold f_t_areLeaves at hf
  refine XR.norm (L3 := [some (.ref 0), some (.ref a0), some (.int a1), none]) rfl ?_
  refine XS.go (s_aloadn rfl rfl rfl) ?_
  refine XS.go (s_ifnull_r rfl) ?_
  refine XS.go (s_aloadn rfl rfl rfl) ?_
  replace hf := xi_none hf
  obtain ⟨qk14, hf⟩ := hf
  refine XS.go (s_getie rfl xf11_255 qk14.1 qk14.2 (by decide) rfl rfl) ?_
  refine XS.go (s_iconst (v := 1) rfl rfl) ?_
  refine r_icmp_ge (tgt := 14) rfl rfl (fun qc15 => ?_) (fun qc15 => ?_)
  · replace hf := xi_pos hf qc15
    refine XS.go (s_iconst (v := 0) rfl rfl) ?_
    refine XS.go (XS.lcl (L3 := [some (.ref 0), some (.ref a0), some (.int a1), some (.int 0)]) (s_istoren rfl rfl (Nat.le_of_ble_eq_true rfl)) rfl) ?_
    exact XR.forget (L2 := [some (.ref 0), some (.ref a0), some (.int a1), some (.int 0)]) ⟨rfl, ⟨rfl, ⟨rfl, ⟨rfl, trivial⟩⟩⟩⟩ (kb_t_areLeaves_16 L0 hf)
  · replace hf := xi_neg hf qc15
    refine XS.go (s_iconst (v := 0) rfl rfl) ?_
    cases hf
    exact XR.retz rfl rfl (by decide) (fun hret => ⟨_, hret, ⟨rfl, rfl⟩, L0⟩)
def b_t_areElements_80 (K37 : Int32 → Int32 → Int32 → Int32 → Int32 → XH → Option (Int32 × XH)) (x1 : Int32) (x2 : Int32) (x3 : Int32) (x4 : Int32) (x5 : Int32) (y0 : Int32) (h : XH) : Option (Int32 × XH) := (if ¬ y0 = 0 then (K37 x1 x2 x3 x4 (x5 + 1) h) else (some (0, h)))
set_option maxRecDepth 20000 in
theorem kb_t_areElements_80 {l : Launch} {G : XG} {d : Nat} {K37 : Int32 → Int32 → Int32 → Int32 → Int32 → XH → Option (Int32 × XH)} {x1 : Int32} {x2 : Int32} {x3 : Int32} {x4 : Int32} {x5 : Int32} {y0 : Int32} {h : XH} {r : Int32 × XH} (hK37 : ∀ (x1 : Int32) (x2 : Int32) (x3 : Int32) (x4 : Int32) (x5 : Int32) (h : XH), LY h → K37 x1 x2 x3 x4 x5 h = some r → XR l G xEX11_areElements (d + 3) (37, [some (.ref 0), some (.int x1), some (.int x2), some (.int x3), some (.int x4), some (.int x5), none, none, none], [], h) (fun C => ∃ v, xRet xEX11_areElements C v ∧ (C.2.2.2 = r.2 ∧ v = some (.int r.1)) ∧ LY r.2)) (L0 : LY h) (hf : b_t_areElements_80 K37 x1 x2 x3 x4 x5 y0 h = some r) : XR l G xEX11_areElements (d + 3) (80, [some (.ref 0), some (.int x1), some (.int x2), some (.int x3), some (.int x4), some (.int x5), none, none, none], [(.int y0)], h) (fun C => ∃ v, xRet xEX11_areElements C v ∧ (C.2.2.2 = r.2 ∧ v = some (.int r.1)) ∧ LY r.2) := by
  unfold b_t_areElements_80 at hf
  refine XS.go (XS.lcl (L3 := [some (.ref 0), some (.int x1), some (.int x2), some (.int x3), some (.int x4), some (.int x5), none, none, some (.int y0)]) (s_istore rfl (Nat.le_of_ble_eq_true rfl)) rfl) ?_
  refine XS.go (s_iload rfl rfl) ?_
  refine r_if_ne (tgt := 89) rfl rfl (fun qc1 => ?_) (fun qc1 => ?_)
  · replace hf := xi_pos hf qc1
    refine XS.go (XS.lcl (L3 := [some (.ref 0), some (.int x1), some (.int x2), some (.int x3), some (.int x4), some (.int (x5 + 1)), none, none, some (.int y0)]) (s_inc rfl rfl (Nat.le_of_ble_eq_true rfl)) rfl) ?_
    refine XS.go (s_goto (tgt := 37) rfl rfl) ?_
    exact XR.forget (L2 := [some (.ref 0), some (.int x1), some (.int x2), some (.int x3), some (.int x4), some (.int (x5 + 1)), none, none, none]) ⟨rfl, ⟨rfl, ⟨rfl, ⟨rfl, ⟨rfl, ⟨rfl, trivial⟩⟩⟩⟩⟩⟩ (hK37 x1 x2 x3 x4 (x5 + 1) _ L0 hf)
  · replace hf := xi_neg hf qc1
    refine XS.go (s_iconst (v := 0) rfl rfl) ?_
    cases hf
    exact XR.retz rfl rfl (by decide) (fun hret => ⟨_, hret, ⟨rfl, rfl⟩, L0⟩)
def s_t_areElements_37 (K37 : Int32 → Int32 → Int32 → Int32 → Int32 → XH → Option (Int32 × XH)) (x1 : Int32) (x2 : Int32) (x3 : Int32) (x4 : Int32) (x5 : Int32) (h : XH) : Option (Int32 × XH) := (if x3 ≤ x5 then (some (1, h)) else (Option.bind (f_w_at 5 x5 h) fun r3 => (if ¬ x1 = 0 then (Option.bind (f_u_isThing r3.1 x1 x4 (-1) r3.2) fun r7 => (b_t_areElements_80 K37 x1 x2 x3 x4 x5 r7.1 r7.2)) else (Option.bind (f_t_isValue x2 r3.1 r3.2) fun r10 => (b_t_areElements_80 K37 x1 x2 x3 x4 x5 r10.1 r10.2)))))
set_option maxRecDepth 20000 in
theorem ks_t_areElements_37 {l : Launch} {G : XG} {d : Nat} {K37 : Int32 → Int32 → Int32 → Int32 → Int32 → XH → Option (Int32 × XH)} {x1 : Int32} {x2 : Int32} {x3 : Int32} {x4 : Int32} {x5 : Int32} {h : XH} {r : Int32 × XH} (hK37 : ∀ (x1 : Int32) (x2 : Int32) (x3 : Int32) (x4 : Int32) (x5 : Int32) (h : XH), LY h → K37 x1 x2 x3 x4 x5 h = some r → XR l G xEX11_areElements (d + 3) (37, [some (.ref 0), some (.int x1), some (.int x2), some (.int x3), some (.int x4), some (.int x5), none, none, none], [], h) (fun C => ∃ v, xRet xEX11_areElements C v ∧ (C.2.2.2 = r.2 ∧ v = some (.int r.1)) ∧ LY r.2)) (L0 : LY h) (hf : s_t_areElements_37 K37 x1 x2 x3 x4 x5 h = some r) : XR l G xEX11_areElements (d + 3) (37, [some (.ref 0), some (.int x1), some (.int x2), some (.int x3), some (.int x4), some (.int x5), none, none, none], [], h) (fun C => ∃ v, xRet xEX11_areElements C v ∧ (C.2.2.2 = r.2 ∧ v = some (.int r.1)) ∧ LY r.2) := by
  unfold s_t_areElements_37 at hf
  refine XS.go (s_iload rfl rfl) ?_
  refine XS.go (s_iloadn rfl rfl rfl) ?_
  refine r_icmp_ge (tgt := 95) rfl rfl (fun qc2 => ?_) (fun qc2 => ?_)
  · replace hf := xi_pos hf qc2
    refine XS.go (s_iconst (v := 1) rfl rfl) ?_
    cases hf
    exact XR.retz rfl rfl (by decide) (fun hret => ⟨_, hret, ⟨rfl, rfl⟩, L0⟩)
  · replace hf := xi_neg hf qc2
    refine XS.go (s_aloadn rfl rfl rfl) ?_
    refine XS.go (s_getr rfl xf11_22 (LY.lt L0 (by decide)) (LY.k0 L0) (by decide) rfl (LY.r0_2 L0)) ?_
    refine XS.go (s_iload rfl rfl) ?_
    replace hf := xb_some hf
    obtain ⟨r3, e4, hf⟩ := hf
    refine r_callv rfl xvX10_at xm11_261 (kf_w_at (d := d) L0 e4) (LY.lt L0 (by decide)) (LY.k5 L0) (by decide) rfl rfl (dl0 (by decide)) (by decide) (Nat.le_of_ble_eq_true rfl) ?_
    rintro _ _ ⟨⟨rfl, rfl⟩, L5⟩
    refine XS.go (XS.lcl (L3 := [some (.ref 0), some (.int x1), some (.int x2), some (.int x3), some (.int x4), some (.int x5), some (.long r3.1), none, none]) (s_lstore rfl (Nat.le_of_ble_eq_true rfl)) rfl) ?_
    refine XS.go (s_iloadn rfl rfl rfl) ?_
    refine r_if_ne (tgt := 67) rfl rfl (fun qc6 => ?_) (fun qc6 => ?_)
    · replace hf := xi_pos hf qc6
      refine XS.go (s_aloadn rfl rfl rfl) ?_
      refine XS.go (s_getr rfl xf11_46 (LY.lt L5 (by decide)) (LY.k0 L5) (by decide) rfl (LY.r0_6 L5)) ?_
      refine XS.go (s_lload rfl rfl) ?_
      refine XS.go (s_iloadn rfl rfl rfl) ?_
      refine XS.go (s_iload rfl rfl) ?_
      refine XS.go (s_iconst (v := (-1)) rfl rfl) ?_
      replace hf := xb_some hf
      obtain ⟨r7, e8, hf⟩ := hf
      refine r_callv rfl xvX0_isThing xm11_268 (kf_u_isThing (d := d) L5 e8) (LY.lt L5 (by decide)) (LY.k1244 L5) (by decide) rfl rfl (dl0 (by decide)) (by decide) (Nat.le_of_ble_eq_true rfl) ?_
      rintro _ _ ⟨⟨rfl, rfl⟩, L9⟩
      exact XR.forget (L2 := [some (.ref 0), some (.int x1), some (.int x2), some (.int x3), some (.int x4), some (.int x5), none, none, none]) ⟨rfl, ⟨rfl, ⟨rfl, ⟨rfl, ⟨rfl, ⟨rfl, trivial⟩⟩⟩⟩⟩⟩ (kb_t_areElements_80 hK37 L9 hf)
    · replace hf := xi_neg hf qc6
      refine XS.go (s_iloadn rfl rfl rfl) ?_
      refine XS.go (s_lload rfl rfl) ?_
      replace hf := xb_some hf
      obtain ⟨r10, e11, hf⟩ := hf
      refine r_calls rfl xsX11_isValue xm11_264 (kf_t_isValue (d := d) L5 e11) rfl rfl (dl (by decide)) (by decide) (Nat.le_of_ble_eq_true rfl) ?_
      rintro _ _ ⟨⟨rfl, rfl⟩, L12⟩
      refine XS.go (s_goto (tgt := 80) rfl rfl) ?_
      exact XR.forget (L2 := [some (.ref 0), some (.int x1), some (.int x2), some (.int x3), some (.int x4), some (.int x5), none, none, none]) ⟨rfl, ⟨rfl, ⟨rfl, ⟨rfl, ⟨rfl, ⟨rfl, trivial⟩⟩⟩⟩⟩⟩ (kb_t_areElements_80 hK37 L12 hf)
def b_t_areElements_37 : Nat → Int32 → Int32 → Int32 → Int32 → Int32 → XH → Option (Int32 × XH)
  | 0, _, _, _, _, _, _ => none
  | n + 1, x1, x2, x3, x4, x5, h => s_t_areElements_37 (b_t_areElements_37 n) x1 x2 x3 x4 x5 h
theorem kb_t_areElements_37 {l : Launch} {G : XG} {d : Nat} {n : Nat} {x1 : Int32} {x2 : Int32} {x3 : Int32} {x4 : Int32} {x5 : Int32} {h : XH} {r : Int32 × XH} (L0 : LY h) (hf : b_t_areElements_37 n x1 x2 x3 x4 x5 h = some r) : XR l G xEX11_areElements (d + 3) (37, [some (.ref 0), some (.int x1), some (.int x2), some (.int x3), some (.int x4), some (.int x5), none, none, none], [], h) (fun C => ∃ v, xRet xEX11_areElements C v ∧ (C.2.2.2 = r.2 ∧ v = some (.int r.1)) ∧ LY r.2) := by
  induction n generalizing x1 x2 x3 x4 x5 h with
  | zero => cases hf
  | succ n ih => exact ks_t_areElements_37 (fun x1 x2 x3 x4 x5 h L0 hf => ih (h := h) (x1 := x1) (x2 := x2) (x3 := x3) (x4 := x4) (x5 := x5) L0 hf) L0 hf
def b_t_areElements_32 (x1 : Int32) (x2 : Int32) (x3 : Int32) (y0 : Int32) (h : XH) : Option (Int32 × XH) := (b_t_areElements_37 100000 x1 x2 x3 y0 0 h)
set_option maxRecDepth 20000 in
theorem kb_t_areElements_32 {l : Launch} {G : XG} {d : Nat} {x1 : Int32} {x2 : Int32} {x3 : Int32} {y0 : Int32} {h : XH} {r : Int32 × XH} (L0 : LY h) (hf : b_t_areElements_32 x1 x2 x3 y0 h = some r) : XR l G xEX11_areElements (d + 3) (32, [some (.ref 0), some (.int x1), some (.int x2), some (.int x3), none, none, none, none, none], [(.int y0)], h) (fun C => ∃ v, xRet xEX11_areElements C v ∧ (C.2.2.2 = r.2 ∧ v = some (.int r.1)) ∧ LY r.2) := by
  unfold b_t_areElements_32 at hf
  refine XS.go (XS.lcl (L3 := [some (.ref 0), some (.int x1), some (.int x2), some (.int x3), some (.int y0), none, none, none, none]) (s_istore rfl (Nat.le_of_ble_eq_true rfl)) rfl) ?_
  refine XS.go (s_iconst (v := 0) rfl rfl) ?_
  refine XS.go (XS.lcl (L3 := [some (.ref 0), some (.int x1), some (.int x2), some (.int x3), some (.int y0), some (.int 0), none, none, none]) (s_istore rfl (Nat.le_of_ble_eq_true rfl)) rfl) ?_
  exact XR.forget (L2 := [some (.ref 0), some (.int x1), some (.int x2), some (.int x3), some (.int y0), some (.int 0), none, none, none]) ⟨rfl, ⟨rfl, ⟨rfl, ⟨rfl, ⟨rfl, ⟨rfl, trivial⟩⟩⟩⟩⟩⟩ (kb_t_areElements_37 L0 hf)
def f_t_areElements (a0 : Int32) (a1 : Int32) (a2 : Int32) (h : XH) : Option (Int32 × XH) := (if ¬ a0 = 2 then (if ¬ a0 = 1 then (b_t_areElements_32 a0 a1 a2 a1 h) else (b_t_areElements_32 a0 a1 a2 0 h)) else (Option.bind (hr h 0 4) fun b15 => (if b15 < hz h ∧ hk h b15 = 9 then (Option.bind (hr h b15 0) fun b18 => (if b18 < hz h ∧ hk h b18 = 4 then (Option.bind (f_g_at b18 a1 h) fun r21 => (Option.bind (r21.1) fun b24 => (Option.bind (f_t_areLeaves b24 a2 r21.2) fun r26 => (if r26.1 = 0 ∨ r26.1 = 1 then (some (r26.1, r26.2)) else none)))) else none)) else none)))
set_option maxRecDepth 20000 in
theorem kf_t_areElements {l : Launch} {G : XG} {d : Nat} {a0 : Int32} {a1 : Int32} {a2 : Int32} {h : XH} {r : Int32 × XH} (L0 : LY h) (hf : f_t_areElements a0 a1 a2 h = some r) : XC l G xEX11_areElements (d + 3) [.ref 0, .int a0, .int a1, .int a2] h (fun v h2 => (h2 = r.2 ∧ v = some (.int r.1)) ∧ LY r.2) := by
  refine XC.virt xvX11_areElements (Nat.le_of_ble_eq_true rfl) ?_
  unfold f_t_areElements at hf
  refine XR.norm (L3 := [some (.ref 0), some (.int a0), some (.int a1), some (.int a2), none, none, none, none, none]) rfl ?_
  refine XS.go (s_iloadn rfl rfl rfl) ?_
  refine XS.go (s_iconst (v := 2) rfl rfl) ?_
  refine r_icmp_ne (tgt := 22) rfl rfl (fun qc13 => ?_) (fun qc13 => ?_)
  · replace hf := xi_pos hf qc13
    refine XS.go (s_iloadn rfl rfl rfl) ?_
    refine XS.go (s_iconst (v := 1) rfl rfl) ?_
    refine r_icmp_ne (tgt := 31) rfl rfl (fun qc14 => ?_) (fun qc14 => ?_)
    · replace hf := xi_pos hf qc14
      refine XS.go (s_iloadn rfl rfl rfl) ?_
      exact XR.forget (L2 := [some (.ref 0), some (.int a0), some (.int a1), some (.int a2), none, none, none, none, none]) ⟨rfl, ⟨rfl, ⟨rfl, ⟨rfl, trivial⟩⟩⟩⟩ (kb_t_areElements_32 L0 hf)
    · replace hf := xi_neg hf qc14
      refine XS.go (s_iconst (v := 0) rfl rfl) ?_
      refine XS.go (s_goto (tgt := 32) rfl rfl) ?_
      exact XR.forget (L2 := [some (.ref 0), some (.int a0), some (.int a1), some (.int a2), none, none, none, none, none]) ⟨rfl, ⟨rfl, ⟨rfl, ⟨rfl, trivial⟩⟩⟩⟩ (kb_t_areElements_32 L0 hf)
  · replace hf := xi_neg hf qc13
    refine XS.go (s_aloadn rfl rfl rfl) ?_
    refine XS.go (s_aloadn rfl rfl rfl) ?_
    replace hf := xb_some hf
    obtain ⟨b15, qr16, hf⟩ := hf
    refine XS.go (s_getr rfl xf11_36 (LY.lt L0 (by decide)) (LY.k0 L0) (by decide) rfl qr16) ?_
    replace hf := xi_none hf
    obtain ⟨qk17, hf⟩ := hf
    replace hf := xb_some hf
    obtain ⟨b18, qr19, hf⟩ := hf
    refine XS.go (s_getr rfl xf11_125 qk17.1 qk17.2 (by decide) rfl qr19) ?_
    refine XS.go (s_iloadn rfl rfl rfl) ?_
    replace hf := xi_none hf
    obtain ⟨qk20, hf⟩ := hf
    replace hf := xb_some hf
    obtain ⟨r21, e22, hf⟩ := hf
    refine r_callv rfl xvX4_at xm11_134 (kf_g_at (d := d) L0 e22) qk20.1 qk20.2 (by decide) rfl rfl (dl0 (by decide)) (by decide) (Nat.le_of_ble_eq_true rfl) ?_
    rintro _ _ ⟨⟨rfl, rfl⟩, L23⟩
    refine XS.go (s_iloadn rfl rfl rfl) ?_
    replace hf := xb_some hf
    obtain ⟨b24, qo25, hf⟩ := hf
    try rw [qo25]
    replace hf := xb_some hf
    obtain ⟨r26, e27, hf⟩ := hf
    refine r_callv rfl xvX11_areLeaves xm11_257 (kf_t_areLeaves (d := d) L23 e27) (LY.lt L23 (by decide)) (LY.k0 L23) (by decide) rfl rfl (dl (by decide)) (by decide) (Nat.le_of_ble_eq_true rfl) ?_
    rintro _ _ ⟨⟨rfl, rfl⟩, L28⟩
    replace hf := xi_none hf
    obtain ⟨qk29, hf⟩ := hf
    cases hf
    exact XR.retz rfl rfl qk29 (fun hret => ⟨_, hret, ⟨rfl, rfl⟩, L28⟩)
def f_t_leafCount (a0 : Nat) (h : XH) : Option (Int32 × XH) := (if a0 < hz h ∧ hk h a0 = 2 then (some ((hi h a0 11), h)) else none)
set_option maxRecDepth 20000 in
theorem kf_t_leafCount {l : Launch} {G : XG} {d : Nat} {a0 : Nat} {h : XH} {r : Int32 × XH} (L0 : LY h) (hf : f_t_leafCount a0 h = some r) : XC l G xEX11_leafCount d [.ref a0] h (fun v h2 => (h2 = r.2 ∧ v = some (.int r.1)) ∧ LY r.2) := by
  refine XC.stat xsX11_leafCount (Nat.le_of_ble_eq_true rfl) ?_
  unfold f_t_leafCount at hf
  refine XR.norm (L3 := [some (.ref a0)]) rfl ?_
  refine XS.go (s_aloadn rfl rfl rfl) ?_
  refine XS.go (s_ifnonnull_r (tgt := 8) rfl rfl) ?_
  refine XS.go (s_aloadn rfl rfl rfl) ?_
  replace hf := xi_none hf
  obtain ⟨qk1, hf⟩ := hf
  refine XS.go (s_getie rfl xf11_255 qk1.1 qk1.2 (by decide) rfl rfl) ?_
  cases hf
  exact XR.reti rfl rfl (fun hret => ⟨_, hret, ⟨rfl, rfl⟩, L0⟩)
def f_t_valuesOfElement (a0 : Int32) (a1 : Int32) (h : XH) : Option (Int32 × XH) := (if a0 = 0 then (Option.bind (f_t_isScalar a1 h) fun r2 => (if r2.1 = 0 then (some (0, r2.2)) else (some (1, r2.2)))) else (if a0 = 1 then (some (1, h)) else (if a0 = 2 then (Option.bind (hr h 0 4) fun b6 => (if b6 < hz h ∧ hk h b6 = 9 then (Option.bind (hr h b6 0) fun b9 => (if b9 < hz h ∧ hk h b9 = 4 then (Option.bind (f_g_at b9 a1 h) fun r12 => (Option.bind (r12.1) fun b15 => (Option.bind (f_t_leafCount b15 r12.2) fun r17 => (some (r17.1, r17.2))))) else none)) else none)) else (if a0 = 3 then (Option.bind (hr h 0 4) fun b20 => (if b20 < hz h ∧ hk h b20 = 9 then (Option.bind (hr h b20 1) fun b23 => (if b23 < hz h ∧ hk h b23 = 4 then (Option.bind (f_g_at b23 a1 h) fun r26 => (Option.elim (r26.1) (some (0, r26.2)) fun b30 => (some (1, r26.2)))) else none)) else none)) else (some (0, h))))))
set_option maxRecDepth 20000 in
theorem kf_t_valuesOfElement {l : Launch} {G : XG} {d : Nat} {a0 : Int32} {a1 : Int32} {h : XH} {r : Int32 × XH} (L0 : LY h) (hf : f_t_valuesOfElement a0 a1 h = some r) : XC l G xEX11_valuesOfElement (d + 1) [.ref 0, .int a0, .int a1] h (fun v h2 => (h2 = r.2 ∧ v = some (.int r.1)) ∧ LY r.2) := by
  refine XC.virt xvX11_valuesOfElement (Nat.le_of_ble_eq_true rfl) ?_
  unfold f_t_valuesOfElement at hf
  refine XR.norm (L3 := [some (.ref 0), some (.int a0), some (.int a1)]) rfl ?_
  refine XS.go (s_iloadn rfl rfl rfl) ?_
  by_cases qs1_0 : a0 = 0
  · replace hf := xi_pos hf qs1_0
    refine XS.go (s_tswI (tgt := 32) rfl (by rw [qs1_0]; decide) (by rw [qs1_0]; decide) (by rw [qs1_0]; rfl) rfl) ?_
    refine XS.go (s_iloadn rfl rfl rfl) ?_
    replace hf := xb_some hf
    obtain ⟨r2, e3, hf⟩ := hf
    refine r_calls rfl xsX11_isScalar xm11_249 (kf_t_isScalar (d := d) L0 e3) rfl rfl (dl0 (by decide)) (by decide) (Nat.le_of_ble_eq_true rfl) ?_
    rintro _ _ ⟨⟨rfl, rfl⟩, L4⟩
    refine r_if_eq (tgt := 43) rfl rfl (fun qc5 => ?_) (fun qc5 => ?_)
    · replace hf := xi_pos hf qc5
      refine XS.go (s_iconst (v := 0) rfl rfl) ?_
      cases hf
      exact XR.reti rfl rfl (fun hret => ⟨_, hret, ⟨rfl, rfl⟩, L4⟩)
    · replace hf := xi_neg hf qc5
      refine XS.go (s_iconst (v := 1) rfl rfl) ?_
      refine XS.go (s_goto (tgt := 44) rfl rfl) ?_
      cases hf
      exact XR.reti rfl rfl (fun hret => ⟨_, hret, ⟨rfl, rfl⟩, L4⟩)
  replace hf := xi_neg hf qs1_0
  by_cases qs1_1 : a0 = 1
  · replace hf := xi_pos hf qs1_1
    refine XS.go (s_tswI (tgt := 45) rfl (by rw [qs1_1]; decide) (by rw [qs1_1]; decide) (by rw [qs1_1]; rfl) rfl) ?_
    refine XS.go (s_iconst (v := 1) rfl rfl) ?_
    cases hf
    exact XR.reti rfl rfl (fun hret => ⟨_, hret, ⟨rfl, rfl⟩, L0⟩)
  replace hf := xi_neg hf qs1_1
  by_cases qs1_2 : a0 = 2
  · replace hf := xi_pos hf qs1_2
    refine XS.go (s_tswI (tgt := 47) rfl (by rw [qs1_2]; decide) (by rw [qs1_2]; decide) (by rw [qs1_2]; rfl) rfl) ?_
    refine XS.go (s_aloadn rfl rfl rfl) ?_
    replace hf := xb_some hf
    obtain ⟨b6, qr7, hf⟩ := hf
    refine XS.go (s_getr rfl xf11_36 (LY.lt L0 (by decide)) (LY.k0 L0) (by decide) rfl qr7) ?_
    replace hf := xi_none hf
    obtain ⟨qk8, hf⟩ := hf
    replace hf := xb_some hf
    obtain ⟨b9, qr10, hf⟩ := hf
    refine XS.go (s_getr rfl xf11_125 qk8.1 qk8.2 (by decide) rfl qr10) ?_
    refine XS.go (s_iloadn rfl rfl rfl) ?_
    replace hf := xi_none hf
    obtain ⟨qk11, hf⟩ := hf
    replace hf := xb_some hf
    obtain ⟨r12, e13, hf⟩ := hf
    refine r_callv rfl xvX4_at xm11_134 (kf_g_at (d := d) L0 e13) qk11.1 qk11.2 (by decide) rfl rfl (dl0 (by decide)) (by decide) (Nat.le_of_ble_eq_true rfl) ?_
    rintro _ _ ⟨⟨rfl, rfl⟩, L14⟩
    replace hf := xb_some hf
    obtain ⟨b15, qo16, hf⟩ := hf
    try rw [qo16]
    replace hf := xb_some hf
    obtain ⟨r17, e18, hf⟩ := hf
    refine r_calls rfl xsX11_leafCount xm11_252 (kf_t_leafCount (d := d) L14 e18) rfl rfl (dl0 (by decide)) (by decide) (Nat.le_of_ble_eq_true rfl) ?_
    rintro _ _ ⟨⟨rfl, rfl⟩, L19⟩
    cases hf
    exact XR.reti rfl rfl (fun hret => ⟨_, hret, ⟨rfl, rfl⟩, L19⟩)
  replace hf := xi_neg hf qs1_2
  by_cases qs1_3 : a0 = 3
  · replace hf := xi_pos hf qs1_3
    refine XS.go (s_tswI (tgt := 62) rfl (by rw [qs1_3]; decide) (by rw [qs1_3]; decide) (by rw [qs1_3]; rfl) rfl) ?_
    refine XS.go (s_aloadn rfl rfl rfl) ?_
    replace hf := xb_some hf
    obtain ⟨b20, qr21, hf⟩ := hf
    refine XS.go (s_getr rfl xf11_36 (LY.lt L0 (by decide)) (LY.k0 L0) (by decide) rfl qr21) ?_
    replace hf := xi_none hf
    obtain ⟨qk22, hf⟩ := hf
    replace hf := xb_some hf
    obtain ⟨b23, qr24, hf⟩ := hf
    refine XS.go (s_getr rfl xf11_116 qk22.1 qk22.2 (by decide) rfl qr24) ?_
    refine XS.go (s_iloadn rfl rfl rfl) ?_
    replace hf := xi_none hf
    obtain ⟨qk25, hf⟩ := hf
    replace hf := xb_some hf
    obtain ⟨r26, e27, hf⟩ := hf
    refine r_callv rfl xvX4_at xm11_134 (kf_g_at (d := d) L0 e27) qk25.1 qk25.2 (by decide) rfl rfl (dl0 (by decide)) (by decide) (Nat.le_of_ble_eq_true rfl) ?_
    rintro _ _ ⟨⟨rfl, rfl⟩, L28⟩
    refine r_ifnonnull (tgt := 80) rfl rfl (fun qn29 => ?_) (fun b30 qn29 => ?_)
    · replace hf := xo_none hf qn29
      try rw [qn29]
      refine XS.go (s_iconst (v := 0) rfl rfl) ?_
      refine XS.go (s_goto (tgt := 81) rfl rfl) ?_
      cases hf
      exact XR.reti rfl rfl (fun hret => ⟨_, hret, ⟨rfl, rfl⟩, L28⟩)
    · replace hf := xo_some hf qn29
      try rw [qn29]
      refine XS.go (s_iconst (v := 1) rfl rfl) ?_
      cases hf
      exact XR.reti rfl rfl (fun hret => ⟨_, hret, ⟨rfl, rfl⟩, L28⟩)
  replace hf := xi_neg hf qs1_3
  have qs1_o : (a0).toInt < 0 ∨ 3 < (a0).toInt := by
    refine tsw_out 0 3 (by decide) ?_
    intro k h1 h2
    have z : k = 0 ∨ k = 1 ∨ k = 2 ∨ k = 3 := by omega
    rcases z with rfl | rfl | rfl | rfl
    · exact qs1_0
    · exact qs1_1
    · exact qs1_2
    · exact qs1_3
  refine XS.go (s_tswO (tgt := 82) rfl qs1_o rfl) ?_
  refine XS.go (s_iconst (v := 0) rfl rfl) ?_
  cases hf
  exact XR.reti rfl rfl (fun hret => ⟨_, hret, ⟨rfl, rfl⟩, L0⟩)
def b_t_vector_79 (x1 : Int32) (x3 : Int32) (x4 : Int32) (y0 : Int32) (h : XH) : Option (Sum Int32 Nat × XH) := (Option.bind (hr h 0 4) fun b1 => (if ¬ x4 = 0 then (Option.bind (f_u_addVector b1 x1 y0 5 (x3 / x4) h) fun r4 => (if ¬ r4.1 = (-1) then (some (Sum.inl r4.1, r4.2)) else (if hz r4.2 < 1000000 then (some (Sum.inr 2, hthr r4.2)) else none))) else none))
set_option maxRecDepth 20000 in
theorem kb_t_vector_79 {l : Launch} {G : XG} {d : Nat} {x1 : Int32} {x3 : Int32} {x4 : Int32} {y0 : Int32} {h : XH} {r : Sum Int32 Nat × XH} (L0 : LY h) (hf : b_t_vector_79 x1 x3 x4 y0 h = some r) : XR l G xEX11_vector (d + 6) (79, [some (.ref 0), some (.int x1), none, some (.int x3), some (.int x4), none, none], [(.int y0)], h) (fun C => (∃ v, xRet xEX11_vector C v ∧ (C.2.2.2 = r.2 ∧ ∃ x, r.1 = Sum.inl x ∧ v = some (.int x)) ∧ LY r.2) ∨ ∃ k E, r.1 = Sum.inr k ∧ xXs[k]? = some E ∧ XThrown xEX11_vector C E ∧ hthr C.2.2.2 = r.2 ∧ LY r.2) := by
  unfold b_t_vector_79 at hf
  refine XS.go (XS.lcl (L3 := [some (.ref 0), some (.int x1), none, some (.int x3), some (.int x4), some (.int y0), none]) (s_istore rfl (Nat.le_of_ble_eq_true rfl)) rfl) ?_
  refine XS.go (s_aloadn rfl rfl rfl) ?_
  refine XS.go (s_getr rfl xf11_46 (LY.lt L0 (by decide)) (LY.k0 L0) (by decide) rfl (LY.r0_6 L0)) ?_
  refine XS.go (s_aloadn rfl rfl rfl) ?_
  replace hf := xb_some hf
  obtain ⟨b1, qr2, hf⟩ := hf
  refine XS.go (s_getr rfl xf11_36 (LY.lt L0 (by decide)) (LY.k0 L0) (by decide) rfl qr2) ?_
  refine XS.go (s_iloadn rfl rfl rfl) ?_
  refine XS.go (s_iload rfl rfl) ?_
  refine XS.go (s_aloadn rfl rfl rfl) ?_
  refine XS.go (s_getr rfl xf11_22 (LY.lt L0 (by decide)) (LY.k0 L0) (by decide) rfl (LY.r0_2 L0)) ?_
  refine XS.go (s_iloadn rfl rfl rfl) ?_
  refine XS.go (s_iload rfl rfl) ?_
  replace hf := xi_none hf
  obtain ⟨qk3, hf⟩ := hf
  refine XS.go (s_idiv qk3 rfl) ?_
  replace hf := xb_some hf
  obtain ⟨r4, e5, hf⟩ := hf
  refine r_callv rfl xvX0_addVector xm11_243 (kf_u_addVector (d := d) L0 e5) (LY.lt L0 (by decide)) (LY.k1244 L0) (by decide) rfl rfl (dl (by decide)) (by decide) (Nat.le_of_ble_eq_true rfl) ?_
  rintro _ _ ⟨⟨rfl, rfl⟩, L6⟩
  refine XS.go (XS.lcl (L3 := [some (.ref 0), some (.int x1), none, some (.int x3), some (.int x4), some (.int y0), some (.int r4.1)]) (s_istore rfl (Nat.le_of_ble_eq_true rfl)) rfl) ?_
  refine XS.go (s_iload rfl rfl) ?_
  refine XS.go (s_iconst (v := (-1)) rfl rfl) ?_
  refine r_icmp_ne (tgt := 121) rfl rfl (fun qc7 => ?_) (fun qc7 => ?_)
  · replace hf := xi_pos hf qc7
    refine XS.go (s_iload rfl rfl) ?_
    cases hf
    exact XR.reti rfl rfl (fun hret => Or.inl ⟨_, hret, ⟨rfl, ⟨_, rfl, rfl⟩⟩, L6⟩)
  · replace hf := xi_neg hf qc7
    replace hf := xi_none hf
    obtain ⟨qk8, hf⟩ := hf
    cases hf
    exact XR.here (Or.inr ⟨2, _, rfl, rfl, ⟨225, 247, 229, 22, _, rfl, xthr2, ⟨⟨rfl, rfl, rfl⟩, Or.inl ⟨rfl, rfl, rfl⟩⟩, qk8⟩, rfl, LY.new L6 qk8⟩)
def b_t_vector_59 (h : XH) : Option (Sum Int32 Nat × XH) := (if hz h < 1000000 then (some (Sum.inr 0, hthr h)) else none)
set_option maxRecDepth 20000 in
theorem kb_t_vector_59 {l : Launch} {G : XG} {d : Nat} {h : XH} {r : Sum Int32 Nat × XH} (L0 : LY h) (hf : b_t_vector_59 h = some r) : XR l G xEX11_vector (d + 6) (59, [none, none, none, none, none, none, none], [], h) (fun C => (∃ v, xRet xEX11_vector C v ∧ (C.2.2.2 = r.2 ∧ ∃ x, r.1 = Sum.inl x ∧ v = some (.int x)) ∧ LY r.2) ∨ ∃ k E, r.1 = Sum.inr k ∧ xXs[k]? = some E ∧ XThrown xEX11_vector C E ∧ hthr C.2.2.2 = r.2 ∧ LY r.2) := by
  unfold b_t_vector_59 at hf
  replace hf := xi_none hf
  obtain ⟨qk9, hf⟩ := hf
  cases hf
  exact XR.here (Or.inr ⟨0, _, rfl, rfl, ⟨103, 241, 107, 21, _, rfl, xthr0, ⟨⟨rfl, rfl, rfl⟩, Or.inl ⟨rfl, rfl, rfl⟩⟩, qk9⟩, rfl, LY.new L0 qk9⟩)
def f_t_vector (a0 : Int32) (a1 : Int32) (h : XH) : Option (Sum Int32 Nat × XH) := (Option.bind (f_w_takeAll 5 h) fun r10 => (Option.bind (f_u_isOpen r10.2) fun r13 => (if r13.1 = 0 then (Option.bind (f_t_valuesOfElement a0 a1 r13.2) fun r17 => (if r17.1 < 1 then (b_t_vector_59 r17.2) else (if ¬ r17.1 = 0 then (if ¬ (r10.1 - r10.1 / r17.1 * r17.1) = 0 then (b_t_vector_59 r17.2) else (Option.bind (f_t_areElements a0 a1 r10.1 r17.2) fun r23 => (if ¬ r23.1 = 0 then (if ¬ a0 = 1 then (b_t_vector_79 a0 r10.1 r17.1 a1 r23.2) else (b_t_vector_79 a0 r10.1 r17.1 0 r23.2)) else (b_t_vector_59 r23.2)))) else none))) else (if hz r13.2 < 1000000 then (some (Sum.inr 1, hthr r13.2)) else none))))
set_option maxRecDepth 20000 in
theorem kf_t_vector {l : Launch} {G : XG} {d : Nat} {a0 : Int32} {a1 : Int32} {h : XH} {r : Sum Int32 Nat × XH} (hl : l.stackTraces = false) (L0 : LY h) (hf : f_t_vector a0 a1 h = some r) : (∃ x, r.1 = Sum.inl x ∧ XC l G xEX11_vector (d + 6) [.ref 0, .int a0, .int a1] h (fun v h2 => (h2 = r.2 ∧ v = some (.int x)) ∧ LY r.2)) ∨ ∃ k E, r.1 = Sum.inr k ∧ xXs[k]? = some E ∧ XCx l G xEX11_vector (d + 6) [.ref 0, .int a0, .int a1] h E (fun h2 => h2 = r.2 ∧ LY r.2) := by
  refine xe_of (R := Int32) (V := fun x => some (.int x)) hl xvX11_vector rfl (Nat.le_of_ble_eq_true rfl) (by omega) ?_
  unfold f_t_vector at hf
  refine XR.norm (L3 := [some (.ref 0), some (.int a0), some (.int a1), none, none, none, none]) rfl ?_
  refine XS.go (s_aloadn rfl rfl rfl) ?_
  refine XS.go (s_getr rfl xf11_22 (LY.lt L0 (by decide)) (LY.k0 L0) (by decide) rfl (LY.r0_2 L0)) ?_
  replace hf := xb_some hf
  obtain ⟨r10, e11, hf⟩ := hf
  refine r_callv rfl xvX10_takeAll xm11_230 (kf_w_takeAll (d := d) L0 e11) (LY.lt L0 (by decide)) (LY.k5 L0) (by decide) rfl rfl (dl0 (by decide)) (by decide) (Nat.le_of_ble_eq_true rfl) ?_
  rintro _ _ ⟨⟨rfl, rfl⟩, L12⟩
  refine XS.go (XS.lcl (L3 := [some (.ref 0), some (.int a0), some (.int a1), some (.int r10.1), none, none, none]) (s_istoren rfl rfl (Nat.le_of_ble_eq_true rfl)) rfl) ?_
  refine XS.go (s_aloadn rfl rfl rfl) ?_
  refine XS.go (s_getr rfl xf11_46 (LY.lt L12 (by decide)) (LY.k0 L12) (by decide) rfl (LY.r0_6 L12)) ?_
  replace hf := xb_some hf
  obtain ⟨r13, e14, hf⟩ := hf
  refine r_callv rfl xvX0_isOpen xm11_213 (kf_u_isOpen (d := d) L12 e14) (LY.lt L12 (by decide)) (LY.k1244 L12) (by decide) rfl rfl (dl0 (by decide)) (by decide) (Nat.le_of_ble_eq_true rfl) ?_
  rintro _ _ ⟨⟨rfl, rfl⟩, L15⟩
  refine r_if_eq (tgt := 28) rfl rfl (fun qc16 => ?_) (fun qc16 => ?_)
  · replace hf := xi_pos hf qc16
    refine XS.go (s_aloadn rfl rfl rfl) ?_
    refine XS.go (s_iloadn rfl rfl rfl) ?_
    refine XS.go (s_iloadn rfl rfl rfl) ?_
    replace hf := xb_some hf
    obtain ⟨r17, e18, hf⟩ := hf
    refine r_callv rfl xvX11_valuesOfElement xm11_233 (kf_t_valuesOfElement (d := d) L15 e18) (LY.lt L15 (by decide)) (LY.k0 L15) (by decide) rfl rfl (dl (by decide)) (by decide) (Nat.le_of_ble_eq_true rfl) ?_
    rintro _ _ ⟨⟨rfl, rfl⟩, L19⟩
    refine XS.go (XS.lcl (L3 := [some (.ref 0), some (.int a0), some (.int a1), some (.int r10.1), some (.int r17.1), none, none]) (s_istore rfl (Nat.le_of_ble_eq_true rfl)) rfl) ?_
    refine XS.go (s_iload rfl rfl) ?_
    refine XS.go (s_iconst (v := 1) rfl rfl) ?_
    refine r_icmp_lt (tgt := 59) rfl rfl (fun qc20 => ?_) (fun qc20 => ?_)
    · replace hf := xi_pos hf qc20
      exact XR.forget (L2 := [none, none, none, none, none, none, none]) trivial (kb_t_vector_59 L19 hf)
    · replace hf := xi_neg hf qc20
      refine XS.go (s_iloadn rfl rfl rfl) ?_
      refine XS.go (s_iload rfl rfl) ?_
      replace hf := xi_none hf
      obtain ⟨qk21, hf⟩ := hf
      refine XS.go (s_irem qk21 rfl) ?_
      refine r_if_ne (tgt := 59) rfl rfl (fun qc22 => ?_) (fun qc22 => ?_)
      · replace hf := xi_pos hf qc22
        exact XR.forget (L2 := [none, none, none, none, none, none, none]) trivial (kb_t_vector_59 L19 hf)
      · replace hf := xi_neg hf qc22
        refine XS.go (s_aloadn rfl rfl rfl) ?_
        refine XS.go (s_iloadn rfl rfl rfl) ?_
        refine XS.go (s_iloadn rfl rfl rfl) ?_
        refine XS.go (s_iloadn rfl rfl rfl) ?_
        replace hf := xb_some hf
        obtain ⟨r23, e24, hf⟩ := hf
        refine r_callv rfl xvX11_areElements xm11_237 (kf_t_areElements (d := d) L19 e24) (LY.lt L19 (by decide)) (LY.k0 L19) (by decide) rfl rfl (dl (by decide)) (by decide) (Nat.le_of_ble_eq_true rfl) ?_
        rintro _ _ ⟨⟨rfl, rfl⟩, L25⟩
        refine r_if_ne (tgt := 69) rfl rfl (fun qc26 => ?_) (fun qc26 => ?_)
        · replace hf := xi_pos hf qc26
          refine XS.go (s_iloadn rfl rfl rfl) ?_
          refine XS.go (s_iconst (v := 1) rfl rfl) ?_
          refine r_icmp_ne (tgt := 78) rfl rfl (fun qc27 => ?_) (fun qc27 => ?_)
          · replace hf := xi_pos hf qc27
            refine XS.go (s_iloadn rfl rfl rfl) ?_
            exact XR.forget (L2 := [some (.ref 0), some (.int a0), none, some (.int r10.1), some (.int r17.1), none, none]) ⟨rfl, ⟨rfl, ⟨rfl, ⟨rfl, trivial⟩⟩⟩⟩ (kb_t_vector_79 L25 hf)
          · replace hf := xi_neg hf qc27
            refine XS.go (s_iconst (v := 0) rfl rfl) ?_
            refine XS.go (s_goto (tgt := 79) rfl rfl) ?_
            exact XR.forget (L2 := [some (.ref 0), some (.int a0), none, some (.int r10.1), some (.int r17.1), none, none]) ⟨rfl, ⟨rfl, ⟨rfl, ⟨rfl, trivial⟩⟩⟩⟩ (kb_t_vector_79 L25 hf)
        · replace hf := xi_neg hf qc26
          exact XR.forget (L2 := [none, none, none, none, none, none, none]) trivial (kb_t_vector_59 L25 hf)
  · replace hf := xi_neg hf qc16
    replace hf := xi_none hf
    obtain ⟨qk28, hf⟩ := hf
    cases hf
    exact XR.here (Or.inr ⟨1, _, rfl, rfl, ⟨216, 218, 220, 19, _, rfl, xthr1, ⟨⟨rfl, rfl, rfl⟩, Or.inl ⟨rfl, rfl, rfl⟩⟩, qk28⟩, rfl, LY.new L15 qk28⟩)
def f_t_suitsUnion (a0 : Nat) (h : XH) : Option (Int32 × XH) := (Option.bind (f_w_at 5 0 h) fun r1 => (if (lg_cmp r1.1 (1 : Int64)) < 0 then (some (0, r1.2)) else (if a0 < hz r1.2 ∧ hk r1.2 a0 = 2 then (if (lg_cmp r1.1 (Int32.toInt64 (hi r1.2 a0 3))) ≤ 0 then (Option.bind (f_d_fieldAt a0 ((Int64.toInt32 r1.1) - 1) r1.2) fun r7 => (Option.elim (r7.1) (some (0, r7.2)) fun b11 => (Option.bind (f_w_at 5 1 r7.2) fun r12 => (if b11 < hz r12.2 ∧ hk r12.2 b11 = 3 then (Option.bind (f_u_isThing r12.1 3 (hi r12.2 b11 4) (-1) r12.2) fun r16 => (if r16.1 = 0 then (some (0, r16.2)) else (some (1, r16.2)))) else none)))) else (some (0, r1.2))) else none)))
set_option maxRecDepth 20000 in
theorem kf_t_suitsUnion {l : Launch} {G : XG} {d : Nat} {a0 : Nat} {h : XH} {r : Int32 × XH} (L0 : LY h) (hf : f_t_suitsUnion a0 h = some r) : XC l G xEX11_suitsUnion (d + 1) [.ref 0, .ref a0] h (fun v h2 => (h2 = r.2 ∧ v = some (.int r.1)) ∧ LY r.2) := by
  refine XC.virt xvX11_suitsUnion (Nat.le_of_ble_eq_true rfl) ?_
  unfold f_t_suitsUnion at hf
  refine XR.norm (L3 := [some (.ref 0), some (.ref a0), none, none, none]) rfl ?_
  refine XS.go (s_aloadn rfl rfl rfl) ?_
  refine XS.go (s_getr rfl xf11_22 (LY.lt L0 (by decide)) (LY.k0 L0) (by decide) rfl (LY.r0_2 L0)) ?_
  refine XS.go (s_iconst (v := 0) rfl rfl) ?_
  replace hf := xb_some hf
  obtain ⟨r1, e2, hf⟩ := hf
  refine r_callv rfl xvX10_at xm11_261 (kf_w_at (d := d) L0 e2) (LY.lt L0 (by decide)) (LY.k5 L0) (by decide) rfl rfl (dl0 (by decide)) (by decide) (Nat.le_of_ble_eq_true rfl) ?_
  rintro _ _ ⟨⟨rfl, rfl⟩, L3⟩
  refine XS.go (XS.lcl (L3 := [some (.ref 0), some (.ref a0), some (.long r1.1), none, none]) (s_lstoren rfl rfl (Nat.le_of_ble_eq_true rfl)) rfl) ?_
  refine XS.go (s_aloadn rfl rfl rfl) ?_
  refine XS.go (s_ifnull_r rfl) ?_
  refine XS.go (s_lloadn rfl rfl rfl) ?_
  refine XS.go (s_lconst (v := 1) rfl rfl) ?_
  refine XS.go (s_lcmp rfl) ?_
  refine r_if_lt (tgt := 29) rfl rfl (fun qc4 => ?_) (fun qc4 => ?_)
  · replace hf := xi_pos hf qc4
    refine XS.go (s_iconst (v := 0) rfl rfl) ?_
    cases hf
    exact XR.retz rfl rfl (by decide) (fun hret => ⟨_, hret, ⟨rfl, rfl⟩, L3⟩)
  · replace hf := xi_neg hf qc4
    refine XS.go (s_lloadn rfl rfl rfl) ?_
    refine XS.go (s_aloadn rfl rfl rfl) ?_
    replace hf := xi_none hf
    obtain ⟨qk5, hf⟩ := hf
    refine XS.go (s_getie rfl xf11_149 qk5.1 qk5.2 (by decide) rfl rfl) ?_
    refine XS.go (s_i2l rfl) ?_
    refine XS.go (s_lcmp rfl) ?_
    refine r_if_le (tgt := 31) rfl rfl (fun qc6 => ?_) (fun qc6 => ?_)
    · replace hf := xi_pos hf qc6
      refine XS.go (s_aloadn rfl rfl rfl) ?_
      refine XS.go (s_lloadn rfl rfl rfl) ?_
      refine XS.go (s_l2i rfl) ?_
      refine XS.go (s_iconst (v := 1) rfl rfl) ?_
      refine XS.go (s_isub rfl) ?_
      replace hf := xb_some hf
      obtain ⟨r7, e8, hf⟩ := hf
      refine r_callv rfl xvX2_fieldAt xm11_189 (kf_d_fieldAt (d := d) L3 e8) qk5.1 qk5.2 (by decide) rfl rfl (dl0 (by decide)) (by decide) (Nat.le_of_ble_eq_true rfl) ?_
      rintro _ _ ⟨⟨rfl, rfl⟩, L9⟩
      refine XS.go (XS.lcl (L3 := [some (.ref 0), some (.ref a0), some (.long r1.1), none, some (va_rf r7.1)]) (s_astoreO rfl (Nat.le_of_ble_eq_true rfl)) rfl) ?_
      refine XS.go (s_aloadO rfl rfl) ?_
      refine r_ifnull (tgt := 75) rfl rfl (fun qn10 => ?_) (fun b11 qn10 => ?_)
      · replace hf := xo_none hf qn10
        try rw [qn10]
        refine XS.go (s_iconst (v := 0) rfl rfl) ?_
        cases hf
        exact XR.retz rfl rfl (by decide) (fun hret => ⟨_, hret, ⟨rfl, rfl⟩, L9⟩)
      · replace hf := xo_some hf qn10
        try rw [qn10]
        refine XS.go (s_aloadn rfl rfl rfl) ?_
        refine XS.go (s_getr rfl xf11_46 (LY.lt L9 (by decide)) (LY.k0 L9) (by decide) rfl (LY.r0_6 L9)) ?_
        refine XS.go (s_aloadn rfl rfl rfl) ?_
        refine XS.go (s_getr rfl xf11_22 (LY.lt L9 (by decide)) (LY.k0 L9) (by decide) rfl (LY.r0_2 L9)) ?_
        refine XS.go (s_iconst (v := 1) rfl rfl) ?_
        replace hf := xb_some hf
        obtain ⟨r12, e13, hf⟩ := hf
        refine r_callv rfl xvX10_at xm11_261 (kf_w_at (d := d) L9 e13) (LY.lt L9 (by decide)) (LY.k5 L9) (by decide) rfl rfl (dl0 (by decide)) (by decide) (Nat.le_of_ble_eq_true rfl) ?_
        rintro _ _ ⟨⟨rfl, rfl⟩, L14⟩
        refine XS.go (s_iconst (v := 3) rfl rfl) ?_
        refine XS.go (s_aload rfl rfl) ?_
        replace hf := xi_none hf
        obtain ⟨qk15, hf⟩ := hf
        refine XS.go (s_getie rfl xf11_176 qk15.1 qk15.2 (by decide) rfl rfl) ?_
        refine XS.go (s_iconst (v := (-1)) rfl rfl) ?_
        replace hf := xb_some hf
        obtain ⟨r16, e17, hf⟩ := hf
        refine r_callv rfl xvX0_isThing xm11_268 (kf_u_isThing (d := d) L14 e17) (LY.lt L14 (by decide)) (LY.k1244 L14) (by decide) rfl rfl (dl0 (by decide)) (by decide) (Nat.le_of_ble_eq_true rfl) ?_
        rintro _ _ ⟨⟨rfl, rfl⟩, L18⟩
        refine r_if_eq (tgt := 75) rfl rfl (fun qc19 => ?_) (fun qc19 => ?_)
        · replace hf := xi_pos hf qc19
          refine XS.go (s_iconst (v := 0) rfl rfl) ?_
          cases hf
          exact XR.retz rfl rfl (by decide) (fun hret => ⟨_, hret, ⟨rfl, rfl⟩, L18⟩)
        · replace hf := xi_neg hf qc19
          refine XS.go (s_iconst (v := 1) rfl rfl) ?_
          refine XS.go (s_goto (tgt := 76) rfl rfl) ?_
          cases hf
          exact XR.retz rfl rfl (by decide) (fun hret => ⟨_, hret, ⟨rfl, rfl⟩, L18⟩)
    · replace hf := xi_neg hf qc6
      refine XS.go (s_iconst (v := 0) rfl rfl) ?_
      cases hf
      exact XR.retz rfl rfl (by decide) (fun hret => ⟨_, hret, ⟨rfl, rfl⟩, L3⟩)
def b_t_suits_150 (x1 : Nat) (x2 : Int32) (h : XH) : Option (Int32 × XH) := (if ¬ x2 = 1 then (some (0, h)) else (Option.bind (f_w_at 5 0 h) fun r2 => (if x1 < hz r2.2 ∧ hk r2.2 x1 = 3 then (Option.bind (f_u_isThing r2.1 (hi r2.2 x1 3) (hi r2.2 x1 4) (hi r2.2 x1 5) r2.2) fun r6 => (if r6.1 = 0 then (some (0, r6.2)) else (some (1, r6.2)))) else none)))
set_option maxRecDepth 20000 in
theorem kb_t_suits_150 {l : Launch} {G : XG} {d : Nat} {x1 : Nat} {x2 : Int32} {h : XH} {r : Int32 × XH} (L0 : LY h) (hf : b_t_suits_150 x1 x2 h = some r) : XR l G xEX11_suits (d + 3) (150, [some (.ref 0), some (.ref x1), some (.int x2)], [], h) (fun C => ∃ v, xRet xEX11_suits C v ∧ (C.2.2.2 = r.2 ∧ v = some (.int r.1)) ∧ LY r.2) := by
  unfold b_t_suits_150 at hf
  refine XS.go (s_iloadn rfl rfl rfl) ?_
  refine XS.go (s_iconst (v := 1) rfl rfl) ?_
  refine r_icmp_ne (tgt := 189) rfl rfl (fun qc1 => ?_) (fun qc1 => ?_)
  · replace hf := xi_pos hf qc1
    refine XS.go (s_iconst (v := 0) rfl rfl) ?_
    cases hf
    exact XR.retz rfl rfl (by decide) (fun hret => ⟨_, hret, ⟨rfl, rfl⟩, L0⟩)
  · replace hf := xi_neg hf qc1
    refine XS.go (s_aloadn rfl rfl rfl) ?_
    refine XS.go (s_getr rfl xf11_46 (LY.lt L0 (by decide)) (LY.k0 L0) (by decide) rfl (LY.r0_6 L0)) ?_
    refine XS.go (s_aloadn rfl rfl rfl) ?_
    refine XS.go (s_getr rfl xf11_22 (LY.lt L0 (by decide)) (LY.k0 L0) (by decide) rfl (LY.r0_2 L0)) ?_
    refine XS.go (s_iconst (v := 0) rfl rfl) ?_
    replace hf := xb_some hf
    obtain ⟨r2, e3, hf⟩ := hf
    refine r_callv rfl xvX10_at xm11_261 (kf_w_at (d := d) L0 e3) (LY.lt L0 (by decide)) (LY.k5 L0) (by decide) rfl rfl (dl0 (by decide)) (by decide) (Nat.le_of_ble_eq_true rfl) ?_
    rintro _ _ ⟨⟨rfl, rfl⟩, L4⟩
    refine XS.go (s_aloadn rfl rfl rfl) ?_
    replace hf := xi_none hf
    obtain ⟨qk5, hf⟩ := hf
    refine XS.go (s_getie rfl xf11_171 qk5.1 qk5.2 (by decide) rfl rfl) ?_
    refine XS.go (s_aloadn rfl rfl rfl) ?_
    refine XS.go (s_getie rfl xf11_176 qk5.1 qk5.2 (by decide) rfl rfl) ?_
    refine XS.go (s_aloadn rfl rfl rfl) ?_
    refine XS.go (s_getie rfl xf11_179 qk5.1 qk5.2 (by decide) rfl rfl) ?_
    replace hf := xb_some hf
    obtain ⟨r6, e7, hf⟩ := hf
    refine r_callv rfl xvX0_isThing xm11_268 (kf_u_isThing (d := d) L4 e7) (LY.lt L4 (by decide)) (LY.k1244 L4) (by decide) rfl rfl (dl0 (by decide)) (by decide) (Nat.le_of_ble_eq_true rfl) ?_
    rintro _ _ ⟨⟨rfl, rfl⟩, L8⟩
    refine r_if_eq (tgt := 189) rfl rfl (fun qc9 => ?_) (fun qc9 => ?_)
    · replace hf := xi_pos hf qc9
      refine XS.go (s_iconst (v := 0) rfl rfl) ?_
      cases hf
      exact XR.retz rfl rfl (by decide) (fun hret => ⟨_, hret, ⟨rfl, rfl⟩, L8⟩)
    · replace hf := xi_neg hf qc9
      refine XS.go (s_iconst (v := 1) rfl rfl) ?_
      refine XS.go (s_goto (tgt := 190) rfl rfl) ?_
      cases hf
      exact XR.retz rfl rfl (by decide) (fun hret => ⟨_, hret, ⟨rfl, rfl⟩, L8⟩)
def f_t_suits (a0 : Nat) (a1 : Int32) (h : XH) : Option (Int32 × XH) := (if a0 < hz h ∧ hk h a0 = 3 then (if (hi h a0 3) = 0 then (if ¬ a1 = 1 then (some (0, h)) else (Option.bind (f_w_at 5 0 h) fun r13 => (Option.bind (f_t_isValue (hi h a0 4) r13.1 r13.2) fun r16 => (if r16.1 = 0 then (some (0, r16.2)) else (some (1, r16.2)))))) else (if (hi h a0 3) = 1 then (b_t_suits_150 a0 a1 h) else (if (hi h a0 3) = 2 then (Option.bind (hr h 0 4) fun b20 => (if b20 < hz h ∧ hk h b20 = 9 then (Option.bind (hr h b20 0) fun b23 => (if b23 < hz h ∧ hk h b23 = 4 then (Option.bind (f_g_at b23 (hi h a0 4) h) fun r26 => (Option.bind (r26.1) fun b29 => (Option.bind (f_t_leafCount b29 r26.2) fun r31 => (if ¬ a1 = r31.1 then (some (0, r31.2)) else (Option.bind (hr r31.2 0 4) fun b35 => (if b35 < hz r31.2 ∧ hk r31.2 b35 = 9 then (Option.bind (hr r31.2 b35 0) fun b38 => (if a0 < hz r31.2 ∧ hk r31.2 a0 = 3 then (if b38 < hz r31.2 ∧ hk r31.2 b38 = 4 then (Option.bind (f_g_at b38 (hi r31.2 a0 4) r31.2) fun r42 => (Option.bind (r42.1) fun b45 => (Option.bind (f_t_areLeaves b45 a1 r42.2) fun r47 => (if r47.1 = 0 then (some (0, r47.2)) else (some (1, r47.2)))))) else none) else none)) else none)))))) else none)) else none)) else (if (hi h a0 3) = 3 then (b_t_suits_150 a0 a1 h) else (if (hi h a0 3) = 4 then (if ¬ a1 = 2 then (some (0, h)) else (Option.bind (hr h 0 4) fun b52 => (if b52 < hz h ∧ hk h b52 = 9 then (Option.bind (hr h b52 2) fun b55 => (if b55 < hz h ∧ hk h b55 = 4 then (Option.bind (f_g_at b55 (hi h a0 4) h) fun r58 => (Option.bind (r58.1) fun b61 => (Option.bind (f_t_suitsUnion b61 r58.2) fun r63 => (if r63.1 = 0 then (some (0, r63.2)) else (some (1, r63.2)))))) else none)) else none))) else (b_t_suits_150 a0 a1 h)))))) else none)
set_option maxRecDepth 20000 in
theorem kf_t_suits {l : Launch} {G : XG} {d : Nat} {a0 : Nat} {a1 : Int32} {h : XH} {r : Int32 × XH} (L0 : LY h) (hf : f_t_suits a0 a1 h = some r) : XC l G xEX11_suits (d + 3) [.ref 0, .ref a0, .int a1] h (fun v h2 => (h2 = r.2 ∧ v = some (.int r.1)) ∧ LY r.2) := by
  refine XC.virt xvX11_suits (Nat.le_of_ble_eq_true rfl) ?_
  unfold f_t_suits at hf
  refine XR.norm (L3 := [some (.ref 0), some (.ref a0), some (.int a1)]) rfl ?_
  refine XS.go (s_aloadn rfl rfl rfl) ?_
  replace hf := xi_none hf
  obtain ⟨qk10, hf⟩ := hf
  refine XS.go (s_getie rfl xf11_171 qk10.1 qk10.2 (by decide) rfl rfl) ?_
  by_cases qs11_0 : (hi h a0 3) = 0
  · replace hf := xi_pos hf qs11_0
    refine XS.go (s_tswI (tgt := 40) rfl (by rw [qs11_0]; decide) (by rw [qs11_0]; decide) (by rw [qs11_0]; rfl) rfl) ?_
    refine XS.go (s_iloadn rfl rfl rfl) ?_
    refine XS.go (s_iconst (v := 1) rfl rfl) ?_
    refine r_icmp_ne (tgt := 67) rfl rfl (fun qc12 => ?_) (fun qc12 => ?_)
    · replace hf := xi_pos hf qc12
      refine XS.go (s_iconst (v := 0) rfl rfl) ?_
      cases hf
      exact XR.retz rfl rfl (by decide) (fun hret => ⟨_, hret, ⟨rfl, rfl⟩, L0⟩)
    · replace hf := xi_neg hf qc12
      refine XS.go (s_aloadn rfl rfl rfl) ?_
      refine XS.go (s_getie rfl xf11_176 qk10.1 qk10.2 (by decide) rfl rfl) ?_
      refine XS.go (s_aloadn rfl rfl rfl) ?_
      refine XS.go (s_getr rfl xf11_22 (LY.lt L0 (by decide)) (LY.k0 L0) (by decide) rfl (LY.r0_2 L0)) ?_
      refine XS.go (s_iconst (v := 0) rfl rfl) ?_
      replace hf := xb_some hf
      obtain ⟨r13, e14, hf⟩ := hf
      refine r_callv rfl xvX10_at xm11_261 (kf_w_at (d := d) L0 e14) (LY.lt L0 (by decide)) (LY.k5 L0) (by decide) rfl rfl (dl0 (by decide)) (by decide) (Nat.le_of_ble_eq_true rfl) ?_
      rintro _ _ ⟨⟨rfl, rfl⟩, L15⟩
      replace hf := xb_some hf
      obtain ⟨r16, e17, hf⟩ := hf
      refine r_calls rfl xsX11_isValue xm11_264 (kf_t_isValue (d := d) L15 e17) rfl rfl (dl (by decide)) (by decide) (Nat.le_of_ble_eq_true rfl) ?_
      rintro _ _ ⟨⟨rfl, rfl⟩, L18⟩
      refine r_if_eq (tgt := 67) rfl rfl (fun qc19 => ?_) (fun qc19 => ?_)
      · replace hf := xi_pos hf qc19
        refine XS.go (s_iconst (v := 0) rfl rfl) ?_
        cases hf
        exact XR.retz rfl rfl (by decide) (fun hret => ⟨_, hret, ⟨rfl, rfl⟩, L18⟩)
      · replace hf := xi_neg hf qc19
        refine XS.go (s_iconst (v := 1) rfl rfl) ?_
        refine XS.go (s_goto (tgt := 68) rfl rfl) ?_
        cases hf
        exact XR.retz rfl rfl (by decide) (fun hret => ⟨_, hret, ⟨rfl, rfl⟩, L18⟩)
  replace hf := xi_neg hf qs11_0
  by_cases qs11_1 : (hi h a0 3) = 1
  · replace hf := xi_pos hf qs11_1
    refine XS.go (s_tswI (tgt := 150) rfl (by rw [qs11_1]; decide) (by rw [qs11_1]; decide) (by rw [qs11_1]; rfl) rfl) ?_
    exact XR.forget (L2 := [some (.ref 0), some (.ref a0), some (.int a1)]) ⟨rfl, ⟨rfl, ⟨rfl, trivial⟩⟩⟩ (kb_t_suits_150 L0 hf)
  replace hf := xi_neg hf qs11_1
  by_cases qs11_2 : (hi h a0 3) = 2
  · replace hf := xi_pos hf qs11_2
    refine XS.go (s_tswI (tgt := 69) rfl (by rw [qs11_2]; decide) (by rw [qs11_2]; decide) (by rw [qs11_2]; rfl) rfl) ?_
    refine XS.go (s_iloadn rfl rfl rfl) ?_
    refine XS.go (s_aloadn rfl rfl rfl) ?_
    replace hf := xb_some hf
    obtain ⟨b20, qr21, hf⟩ := hf
    refine XS.go (s_getr rfl xf11_36 (LY.lt L0 (by decide)) (LY.k0 L0) (by decide) rfl qr21) ?_
    replace hf := xi_none hf
    obtain ⟨qk22, hf⟩ := hf
    replace hf := xb_some hf
    obtain ⟨b23, qr24, hf⟩ := hf
    refine XS.go (s_getr rfl xf11_125 qk22.1 qk22.2 (by decide) rfl qr24) ?_
    refine XS.go (s_aloadn rfl rfl rfl) ?_
    refine XS.go (s_getie rfl xf11_176 qk10.1 qk10.2 (by decide) rfl rfl) ?_
    replace hf := xi_none hf
    obtain ⟨qk25, hf⟩ := hf
    replace hf := xb_some hf
    obtain ⟨r26, e27, hf⟩ := hf
    refine r_callv rfl xvX4_at xm11_134 (kf_g_at (d := d) L0 e27) qk25.1 qk25.2 (by decide) rfl rfl (dl0 (by decide)) (by decide) (Nat.le_of_ble_eq_true rfl) ?_
    rintro _ _ ⟨⟨rfl, rfl⟩, L28⟩
    replace hf := xb_some hf
    obtain ⟨b29, qo30, hf⟩ := hf
    try rw [qo30]
    replace hf := xb_some hf
    obtain ⟨r31, e32, hf⟩ := hf
    refine r_calls rfl xsX11_leafCount xm11_252 (kf_t_leafCount (d := d) L28 e32) rfl rfl (dl0 (by decide)) (by decide) (Nat.le_of_ble_eq_true rfl) ?_
    rintro _ _ ⟨⟨rfl, rfl⟩, L33⟩
    refine r_icmp_ne (tgt := 116) rfl rfl (fun qc34 => ?_) (fun qc34 => ?_)
    · replace hf := xi_pos hf qc34
      refine XS.go (s_iconst (v := 0) rfl rfl) ?_
      cases hf
      exact XR.retz rfl rfl (by decide) (fun hret => ⟨_, hret, ⟨rfl, rfl⟩, L33⟩)
    · replace hf := xi_neg hf qc34
      refine XS.go (s_aloadn rfl rfl rfl) ?_
      refine XS.go (s_aloadn rfl rfl rfl) ?_
      replace hf := xb_some hf
      obtain ⟨b35, qr36, hf⟩ := hf
      refine XS.go (s_getr rfl xf11_36 (LY.lt L33 (by decide)) (LY.k0 L33) (by decide) rfl qr36) ?_
      replace hf := xi_none hf
      obtain ⟨qk37, hf⟩ := hf
      replace hf := xb_some hf
      obtain ⟨b38, qr39, hf⟩ := hf
      refine XS.go (s_getr rfl xf11_125 qk37.1 qk37.2 (by decide) rfl qr39) ?_
      refine XS.go (s_aloadn rfl rfl rfl) ?_
      replace hf := xi_none hf
      obtain ⟨qk40, hf⟩ := hf
      refine XS.go (s_getie rfl xf11_176 qk40.1 qk40.2 (by decide) rfl rfl) ?_
      replace hf := xi_none hf
      obtain ⟨qk41, hf⟩ := hf
      replace hf := xb_some hf
      obtain ⟨r42, e43, hf⟩ := hf
      refine r_callv rfl xvX4_at xm11_134 (kf_g_at (d := d) L33 e43) qk41.1 qk41.2 (by decide) rfl rfl (dl0 (by decide)) (by decide) (Nat.le_of_ble_eq_true rfl) ?_
      rintro _ _ ⟨⟨rfl, rfl⟩, L44⟩
      refine XS.go (s_iloadn rfl rfl rfl) ?_
      replace hf := xb_some hf
      obtain ⟨b45, qo46, hf⟩ := hf
      try rw [qo46]
      replace hf := xb_some hf
      obtain ⟨r47, e48, hf⟩ := hf
      refine r_callv rfl xvX11_areLeaves xm11_257 (kf_t_areLeaves (d := d) L44 e48) (LY.lt L44 (by decide)) (LY.k0 L44) (by decide) rfl rfl (dl (by decide)) (by decide) (Nat.le_of_ble_eq_true rfl) ?_
      rintro _ _ ⟨⟨rfl, rfl⟩, L49⟩
      refine r_if_eq (tgt := 116) rfl rfl (fun qc50 => ?_) (fun qc50 => ?_)
      · replace hf := xi_pos hf qc50
        refine XS.go (s_iconst (v := 0) rfl rfl) ?_
        cases hf
        exact XR.retz rfl rfl (by decide) (fun hret => ⟨_, hret, ⟨rfl, rfl⟩, L49⟩)
      · replace hf := xi_neg hf qc50
        refine XS.go (s_iconst (v := 1) rfl rfl) ?_
        refine XS.go (s_goto (tgt := 117) rfl rfl) ?_
        cases hf
        exact XR.retz rfl rfl (by decide) (fun hret => ⟨_, hret, ⟨rfl, rfl⟩, L49⟩)
  replace hf := xi_neg hf qs11_2
  by_cases qs11_3 : (hi h a0 3) = 3
  · replace hf := xi_pos hf qs11_3
    refine XS.go (s_tswI (tgt := 150) rfl (by rw [qs11_3]; decide) (by rw [qs11_3]; decide) (by rw [qs11_3]; rfl) rfl) ?_
    exact XR.forget (L2 := [some (.ref 0), some (.ref a0), some (.int a1)]) ⟨rfl, ⟨rfl, ⟨rfl, trivial⟩⟩⟩ (kb_t_suits_150 L0 hf)
  replace hf := xi_neg hf qs11_3
  by_cases qs11_4 : (hi h a0 3) = 4
  · replace hf := xi_pos hf qs11_4
    refine XS.go (s_tswI (tgt := 118) rfl (by rw [qs11_4]; decide) (by rw [qs11_4]; decide) (by rw [qs11_4]; rfl) rfl) ?_
    refine XS.go (s_iloadn rfl rfl rfl) ?_
    refine XS.go (s_iconst (v := 2) rfl rfl) ?_
    refine r_icmp_ne (tgt := 148) rfl rfl (fun qc51 => ?_) (fun qc51 => ?_)
    · replace hf := xi_pos hf qc51
      refine XS.go (s_iconst (v := 0) rfl rfl) ?_
      cases hf
      exact XR.retz rfl rfl (by decide) (fun hret => ⟨_, hret, ⟨rfl, rfl⟩, L0⟩)
    · replace hf := xi_neg hf qc51
      refine XS.go (s_aloadn rfl rfl rfl) ?_
      refine XS.go (s_aloadn rfl rfl rfl) ?_
      replace hf := xb_some hf
      obtain ⟨b52, qr53, hf⟩ := hf
      refine XS.go (s_getr rfl xf11_36 (LY.lt L0 (by decide)) (LY.k0 L0) (by decide) rfl qr53) ?_
      replace hf := xi_none hf
      obtain ⟨qk54, hf⟩ := hf
      replace hf := xb_some hf
      obtain ⟨b55, qr56, hf⟩ := hf
      refine XS.go (s_getr rfl xf11_128 qk54.1 qk54.2 (by decide) rfl qr56) ?_
      refine XS.go (s_aloadn rfl rfl rfl) ?_
      refine XS.go (s_getie rfl xf11_176 qk10.1 qk10.2 (by decide) rfl rfl) ?_
      replace hf := xi_none hf
      obtain ⟨qk57, hf⟩ := hf
      replace hf := xb_some hf
      obtain ⟨r58, e59, hf⟩ := hf
      refine r_callv rfl xvX4_at xm11_134 (kf_g_at (d := d) L0 e59) qk57.1 qk57.2 (by decide) rfl rfl (dl0 (by decide)) (by decide) (Nat.le_of_ble_eq_true rfl) ?_
      rintro _ _ ⟨⟨rfl, rfl⟩, L60⟩
      replace hf := xb_some hf
      obtain ⟨b61, qo62, hf⟩ := hf
      try rw [qo62]
      replace hf := xb_some hf
      obtain ⟨r63, e64, hf⟩ := hf
      refine r_callv rfl xvX11_suitsUnion xm11_309 (kf_t_suitsUnion (d := d) L60 e64) (LY.lt L60 (by decide)) (LY.k0 L60) (by decide) rfl rfl (dl (by decide)) (by decide) (Nat.le_of_ble_eq_true rfl) ?_
      rintro _ _ ⟨⟨rfl, rfl⟩, L65⟩
      refine r_if_eq (tgt := 148) rfl rfl (fun qc66 => ?_) (fun qc66 => ?_)
      · replace hf := xi_pos hf qc66
        refine XS.go (s_iconst (v := 0) rfl rfl) ?_
        cases hf
        exact XR.retz rfl rfl (by decide) (fun hret => ⟨_, hret, ⟨rfl, rfl⟩, L65⟩)
      · replace hf := xi_neg hf qc66
        refine XS.go (s_iconst (v := 1) rfl rfl) ?_
        refine XS.go (s_goto (tgt := 149) rfl rfl) ?_
        cases hf
        exact XR.retz rfl rfl (by decide) (fun hret => ⟨_, hret, ⟨rfl, rfl⟩, L65⟩)
  replace hf := xi_neg hf qs11_4
  have qs11_o : ((hi h a0 3)).toInt < 0 ∨ 4 < ((hi h a0 3)).toInt := by
    refine tsw_out 0 4 (by decide) ?_
    intro k h1 h2
    have z : k = 0 ∨ k = 1 ∨ k = 2 ∨ k = 3 ∨ k = 4 := by omega
    rcases z with rfl | rfl | rfl | rfl | rfl
    · exact qs11_0
    · exact qs11_1
    · exact qs11_2
    · exact qs11_3
    · exact qs11_4
  refine XS.go (s_tswO (tgt := 150) rfl qs11_o rfl) ?_
  exact XR.forget (L2 := [some (.ref 0), some (.ref a0), some (.int a1)]) ⟨rfl, ⟨rfl, ⟨rfl, trivial⟩⟩⟩ (kb_t_suits_150 L0 hf)
def b_t_ready_37 (h : XH) : Option (Sum Int32 Nat × XH) := (if hz h < 1000000 then (some (Sum.inr 1, hthr h)) else none)
set_option maxRecDepth 20000 in
theorem kb_t_ready_37 {l : Launch} {G : XG} {d : Nat} {h : XH} {r : Sum Int32 Nat × XH} (L0 : LY h) (hf : b_t_ready_37 h = some r) : XR l G xEX11_ready (d + 6) (37, [none, none], [], h) (fun C => (∃ v, xRet xEX11_ready C v ∧ (C.2.2.2 = r.2 ∧ ∃ x, r.1 = Sum.inl x ∧ v = some (.int x)) ∧ LY r.2) ∨ ∃ k E, r.1 = Sum.inr k ∧ xXs[k]? = some E ∧ XThrown xEX11_ready C E ∧ hthr C.2.2.2 = r.2 ∧ LY r.2) := by
  unfold b_t_ready_37 at hf
  replace hf := xi_none hf
  obtain ⟨qk1, hf⟩ := hf
  cases hf
  exact XR.here (Or.inr ⟨1, _, rfl, rfl, ⟨216, 316, 220, 28, _, rfl, xthr1, ⟨⟨rfl, rfl, rfl⟩, Or.inr ⟨rfl, rfl, rfl⟩⟩, qk1⟩, rfl, LY.new L0 qk1⟩)
def f_t_ready (h : XH) : Option (Sum Int32 Nat × XH) := (Option.bind (f_u_isOpen h) fun r2 => (if r2.1 = 0 then (b_t_ready_37 r2.2) else (Option.bind (hr r2.2 0 4) fun b6 => (if b6 < hz r2.2 ∧ hk r2.2 b6 = 9 then (Option.bind (hr r2.2 b6 1) fun b9 => (if b9 < hz r2.2 ∧ hk r2.2 b9 = 4 then (Option.bind (f_g_at b9 (hi r2.2 1244 10) r2.2) fun r12 => (Option.bind (r12.1) fun b15 => (Option.bind (f_u_hasRequired b15 r12.2) fun r17 => (if ¬ r17.1 = 0 then (Option.bind (f_u_close r17.2) fun r21 => (if ¬ r21.1 = (-1) then (some (Sum.inl r21.1, r21.2)) else (if hz r21.2 < 1000000 then (some (Sum.inr 2, hthr r21.2)) else none))) else (b_t_ready_37 r17.2))))) else none)) else none))))
set_option maxRecDepth 20000 in
theorem kf_t_ready {l : Launch} {G : XG} {d : Nat} {h : XH} {r : Sum Int32 Nat × XH} (hl : l.stackTraces = false) (L0 : LY h) (hf : f_t_ready h = some r) : (∃ x, r.1 = Sum.inl x ∧ XC l G xEX11_ready (d + 6) [.ref 0] h (fun v h2 => (h2 = r.2 ∧ v = some (.int x)) ∧ LY r.2)) ∨ ∃ k E, r.1 = Sum.inr k ∧ xXs[k]? = some E ∧ XCx l G xEX11_ready (d + 6) [.ref 0] h E (fun h2 => h2 = r.2 ∧ LY r.2) := by
  refine xe_of (R := Int32) (V := fun x => some (.int x)) hl xvX11_ready rfl (Nat.le_of_ble_eq_true rfl) (by omega) ?_
  unfold f_t_ready at hf
  refine XR.norm (L3 := [some (.ref 0), none]) rfl ?_
  refine XS.go (s_aloadn rfl rfl rfl) ?_
  refine XS.go (s_getr rfl xf11_46 (LY.lt L0 (by decide)) (LY.k0 L0) (by decide) rfl (LY.r0_6 L0)) ?_
  replace hf := xb_some hf
  obtain ⟨r2, e3, hf⟩ := hf
  refine r_callv rfl xvX0_isOpen xm11_213 (kf_u_isOpen (d := d) L0 e3) (LY.lt L0 (by decide)) (LY.k1244 L0) (by decide) rfl rfl (dl0 (by decide)) (by decide) (Nat.le_of_ble_eq_true rfl) ?_
  rintro _ _ ⟨⟨rfl, rfl⟩, L4⟩
  refine r_if_eq (tgt := 37) rfl rfl (fun qc5 => ?_) (fun qc5 => ?_)
  · replace hf := xi_pos hf qc5
    exact XR.forget (L2 := [none, none]) trivial (kb_t_ready_37 L4 hf)
  · replace hf := xi_neg hf qc5
    refine XS.go (s_aloadn rfl rfl rfl) ?_
    refine XS.go (s_getr rfl xf11_46 (LY.lt L4 (by decide)) (LY.k0 L4) (by decide) rfl (LY.r0_6 L4)) ?_
    refine XS.go (s_aloadn rfl rfl rfl) ?_
    replace hf := xb_some hf
    obtain ⟨b6, qr7, hf⟩ := hf
    refine XS.go (s_getr rfl xf11_36 (LY.lt L4 (by decide)) (LY.k0 L4) (by decide) rfl qr7) ?_
    replace hf := xi_none hf
    obtain ⟨qk8, hf⟩ := hf
    replace hf := xb_some hf
    obtain ⟨b9, qr10, hf⟩ := hf
    refine XS.go (s_getr rfl xf11_116 qk8.1 qk8.2 (by decide) rfl qr10) ?_
    refine XS.go (s_aloadn rfl rfl rfl) ?_
    refine XS.go (s_getr rfl xf11_46 (LY.lt L4 (by decide)) (LY.k0 L4) (by decide) rfl (LY.r0_6 L4)) ?_
    refine XS.go (s_getie rfl xf11_286 (LY.lt L4 (by decide)) (LY.k1244 L4) (by decide) rfl rfl) ?_
    replace hf := xi_none hf
    obtain ⟨qk11, hf⟩ := hf
    replace hf := xb_some hf
    obtain ⟨r12, e13, hf⟩ := hf
    refine r_callv rfl xvX4_at xm11_134 (kf_g_at (d := d) L4 e13) qk11.1 qk11.2 (by decide) rfl rfl (dl0 (by decide)) (by decide) (Nat.le_of_ble_eq_true rfl) ?_
    rintro _ _ ⟨⟨rfl, rfl⟩, L14⟩
    replace hf := xb_some hf
    obtain ⟨b15, qo16, hf⟩ := hf
    try rw [qo16]
    replace hf := xb_some hf
    obtain ⟨r17, e18, hf⟩ := hf
    refine r_callv rfl xvX0_hasRequired xm11_313 (kf_u_hasRequired (d := d) L14 e18) (LY.lt L14 (by decide)) (LY.k1244 L14) (by decide) rfl rfl (dl (by decide)) (by decide) (Nat.le_of_ble_eq_true rfl) ?_
    rintro _ _ ⟨⟨rfl, rfl⟩, L19⟩
    refine r_if_ne (tgt := 48) rfl rfl (fun qc20 => ?_) (fun qc20 => ?_)
    · replace hf := xi_pos hf qc20
      refine XS.go (s_aloadn rfl rfl rfl) ?_
      refine XS.go (s_getr rfl xf11_46 (LY.lt L19 (by decide)) (LY.k0 L19) (by decide) rfl (LY.r0_6 L19)) ?_
      replace hf := xb_some hf
      obtain ⟨r21, e22, hf⟩ := hf
      refine r_callv rfl xvX0_close xm11_318 (kf_u_close (d := d) L19 e22) (LY.lt L19 (by decide)) (LY.k1244 L19) (by decide) rfl rfl (dl (by decide)) (by decide) (Nat.le_of_ble_eq_true rfl) ?_
      rintro _ _ ⟨⟨rfl, rfl⟩, L23⟩
      refine XS.go (XS.lcl (L3 := [some (.ref 0), some (.int r21.1)]) (s_istoren rfl rfl (Nat.le_of_ble_eq_true rfl)) rfl) ?_
      refine XS.go (s_iloadn rfl rfl rfl) ?_
      refine XS.go (s_iconst (v := (-1)) rfl rfl) ?_
      refine r_icmp_ne (tgt := 72) rfl rfl (fun qc24 => ?_) (fun qc24 => ?_)
      · replace hf := xi_pos hf qc24
        refine XS.go (s_iloadn rfl rfl rfl) ?_
        cases hf
        exact XR.reti rfl rfl (fun hret => Or.inl ⟨_, hret, ⟨rfl, ⟨_, rfl, rfl⟩⟩, L23⟩)
      · replace hf := xi_neg hf qc24
        replace hf := xi_none hf
        obtain ⟨qk25, hf⟩ := hf
        cases hf
        exact XR.here (Or.inr ⟨2, _, rfl, rfl, ⟨225, 321, 229, 29, _, rfl, xthr2, ⟨⟨rfl, rfl, rfl⟩, Or.inr ⟨rfl, rfl, rfl⟩⟩, qk25⟩, rfl, LY.new L23 qk25⟩)
    · replace hf := xi_neg hf qc20
      exact XR.forget (L2 := [none, none]) trivial (kb_t_ready_37 L19 hf)
def f_t_finish (a0 : Int32) (h : XH) : Option (Sum Int32 Nat × XH) := (Option.bind (f_u_isOpen h) fun r1 => (if r1.1 = 0 then (Option.bind (hr r1.2 0 4) fun b5 => (if b5 < hz r1.2 ∧ hk r1.2 b5 = 9 then (Option.bind (f_u_isThing (Int32.toInt64 a0) 3 (hi r1.2 b5 5) (-1) r1.2) fun r8 => (if ¬ r8.1 = 0 then (Option.bind (f_u_moveTo 3 a0 r8.2) fun r12 => (if ¬ r12.1 = 0 then (some (Sum.inl (hi r12.2 3 1), r12.2)) else (if hz r12.2 < 1000000 then (some (Sum.inr 2, hthr r12.2)) else none))) else (if hz r8.2 < 1000000 then (some (Sum.inr 0, hthr r8.2)) else none))) else none)) else (if hz r1.2 < 1000000 then (some (Sum.inr 1, hthr r1.2)) else none)))
set_option maxRecDepth 20000 in
theorem kf_t_finish {l : Launch} {G : XG} {d : Nat} {a0 : Int32} {h : XH} {r : Sum Int32 Nat × XH} (hl : l.stackTraces = false) (L0 : LY h) (hf : f_t_finish a0 h = some r) : (∃ x, r.1 = Sum.inl x ∧ XC l G xEX11_finish (d + 6) [.ref 0, .int a0] h (fun v h2 => (h2 = r.2 ∧ v = some (.int x)) ∧ LY r.2)) ∨ ∃ k E, r.1 = Sum.inr k ∧ xXs[k]? = some E ∧ XCx l G xEX11_finish (d + 6) [.ref 0, .int a0] h E (fun h2 => h2 = r.2 ∧ LY r.2) := by
  refine xe_of (R := Int32) (V := fun x => some (.int x)) hl xvX11_finish rfl (Nat.le_of_ble_eq_true rfl) (by omega) ?_
  unfold f_t_finish at hf
  refine XR.norm (L3 := [some (.ref 0), some (.int a0)]) rfl ?_
  refine XS.go (s_aloadn rfl rfl rfl) ?_
  refine XS.go (s_getr rfl xf11_46 (LY.lt L0 (by decide)) (LY.k0 L0) (by decide) rfl (LY.r0_6 L0)) ?_
  replace hf := xb_some hf
  obtain ⟨r1, e2, hf⟩ := hf
  refine r_callv rfl xvX0_isOpen xm11_213 (kf_u_isOpen (d := d) L0 e2) (LY.lt L0 (by decide)) (LY.k1244 L0) (by decide) rfl rfl (dl0 (by decide)) (by decide) (Nat.le_of_ble_eq_true rfl) ?_
  rintro _ _ ⟨⟨rfl, rfl⟩, L3⟩
  refine r_if_eq (tgt := 20) rfl rfl (fun qc4 => ?_) (fun qc4 => ?_)
  · replace hf := xi_pos hf qc4
    refine XS.go (s_aloadn rfl rfl rfl) ?_
    refine XS.go (s_getr rfl xf11_46 (LY.lt L3 (by decide)) (LY.k0 L3) (by decide) rfl (LY.r0_6 L3)) ?_
    refine XS.go (s_iloadn rfl rfl rfl) ?_
    refine XS.go (s_i2l rfl) ?_
    refine XS.go (s_iconst (v := 3) rfl rfl) ?_
    refine XS.go (s_aloadn rfl rfl rfl) ?_
    replace hf := xb_some hf
    obtain ⟨b5, qr6, hf⟩ := hf
    refine XS.go (s_getr rfl xf11_36 (LY.lt L3 (by decide)) (LY.k0 L3) (by decide) rfl qr6) ?_
    replace hf := xi_none hf
    obtain ⟨qk7, hf⟩ := hf
    refine XS.go (s_getie rfl xf11_131 qk7.1 qk7.2 (by decide) rfl rfl) ?_
    refine XS.go (s_iconst (v := (-1)) rfl rfl) ?_
    replace hf := xb_some hf
    obtain ⟨r8, e9, hf⟩ := hf
    refine r_callv rfl xvX0_isThing xm11_268 (kf_u_isThing (d := d) L3 e9) (LY.lt L3 (by decide)) (LY.k1244 L3) (by decide) rfl rfl (dl0 (by decide)) (by decide) (Nat.le_of_ble_eq_true rfl) ?_
    rintro _ _ ⟨⟨rfl, rfl⟩, L10⟩
    refine r_if_ne (tgt := 52) rfl rfl (fun qc11 => ?_) (fun qc11 => ?_)
    · replace hf := xi_pos hf qc11
      refine XS.go (s_aloadn rfl rfl rfl) ?_
      refine XS.go (s_getr rfl xf11_46 (LY.lt L10 (by decide)) (LY.k0 L10) (by decide) rfl (LY.r0_6 L10)) ?_
      refine XS.go (s_aloadn rfl rfl rfl) ?_
      refine XS.go (s_getr rfl xf11_16 (LY.lt L10 (by decide)) (LY.k0 L10) (by decide) rfl (LY.r0_1 L10)) ?_
      refine XS.go (s_iloadn rfl rfl rfl) ?_
      replace hf := xb_some hf
      obtain ⟨r12, e13, hf⟩ := hf
      refine r_callv rfl xvX0_moveTo xm11_325 (kf_u_moveTo (d := d) L10 e13) (LY.lt L10 (by decide)) (LY.k1244 L10) (by decide) rfl rfl (dl (by decide)) (by decide) (Nat.le_of_ble_eq_true rfl) ?_
      rintro _ _ ⟨⟨rfl, rfl⟩, L14⟩
      refine r_if_ne (tgt := 78) rfl rfl (fun qc15 => ?_) (fun qc15 => ?_)
      · replace hf := xi_pos hf qc15
        refine XS.go (s_aloadn rfl rfl rfl) ?_
        refine XS.go (s_getr rfl xf11_16 (LY.lt L14 (by decide)) (LY.k0 L14) (by decide) rfl (LY.r0_1 L14)) ?_
        refine XS.go (s_getie rfl xf11_73 (LY.lt L14 (by decide)) (LY.k3 L14) (by decide) rfl rfl) ?_
        cases hf
        exact XR.reti rfl rfl (fun hret => Or.inl ⟨_, hret, ⟨rfl, ⟨_, rfl, rfl⟩⟩, L14⟩)
      · replace hf := xi_neg hf qc15
        replace hf := xi_none hf
        obtain ⟨qk16, hf⟩ := hf
        cases hf
        exact XR.here (Or.inr ⟨2, _, rfl, rfl, ⟨225, 329, 229, 31, _, rfl, xthr2, ⟨⟨rfl, rfl, rfl⟩, Or.inr ⟨rfl, rfl, rfl⟩⟩, qk16⟩, rfl, LY.new L14 qk16⟩)
    · replace hf := xi_neg hf qc11
      replace hf := xi_none hf
      obtain ⟨qk17, hf⟩ := hf
      cases hf
      exact XR.here (Or.inr ⟨0, _, rfl, rfl, ⟨103, 323, 107, 30, _, rfl, xthr0, ⟨⟨rfl, rfl, rfl⟩, Or.inr ⟨rfl, rfl, rfl⟩⟩, qk17⟩, rfl, LY.new L10 qk17⟩)
  · replace hf := xi_neg hf qc4
    replace hf := xi_none hf
    obtain ⟨qk18, hf⟩ := hf
    cases hf
    exact XR.here (Or.inr ⟨1, _, rfl, rfl, ⟨216, 218, 220, 19, _, rfl, xthr1, ⟨⟨rfl, rfl, rfl⟩, Or.inl ⟨rfl, rfl, rfl⟩⟩, qk18⟩, rfl, LY.new L3 qk18⟩)
def f_t_clear (h : XH) : Option (Int32 × XH) := (Option.bind (f_u_empty h) fun r1 => (some ((hi h 1244 1), r1.2)))
set_option maxRecDepth 20000 in
theorem kf_t_clear {l : Launch} {G : XG} {d : Nat} {h : XH} {r : Int32 × XH} (L0 : LY h) (hf : f_t_clear h = some r) : XC l G xEX11_clear (d + 1) [.ref 0] h (fun v h2 => (h2 = r.2 ∧ v = some (.int r.1)) ∧ LY r.2) := by
  refine XC.virt xvX11_clear (Nat.le_of_ble_eq_true rfl) ?_
  unfold f_t_clear at hf
  refine XR.norm (L3 := [some (.ref 0), none]) rfl ?_
  refine XS.go (s_aloadn rfl rfl rfl) ?_
  refine XS.go (s_getr rfl xf11_46 (LY.lt L0 (by decide)) (LY.k0 L0) (by decide) rfl (LY.r0_6 L0)) ?_
  refine XS.go (s_getie rfl xf11_331 (LY.lt L0 (by decide)) (LY.k1244 L0) (by decide) rfl rfl) ?_
  refine XS.go (XS.lcl (L3 := [some (.ref 0), some (.int (hi h 1244 1))]) (s_istoren rfl rfl (Nat.le_of_ble_eq_true rfl)) rfl) ?_
  refine XS.go (s_aloadn rfl rfl rfl) ?_
  refine XS.go (s_getr rfl xf11_46 (LY.lt L0 (by decide)) (LY.k0 L0) (by decide) rfl (LY.r0_6 L0)) ?_
  replace hf := xb_some hf
  obtain ⟨r1, e2, hf⟩ := hf
  refine r_callv rfl xvX0_empty xm11_110 (kf_u_empty (d := d) L0 e2) (LY.lt L0 (by decide)) (LY.k1244 L0) (by decide) rfl rfl (dl0 (by decide)) (by decide) (Nat.le_of_ble_eq_true rfl) ?_
  rintro _ _ ⟨⟨rfl, rfl⟩, L3⟩
  refine XS.go (s_iloadn rfl rfl rfl) ?_
  cases hf
  exact XR.reti rfl rfl (fun hret => ⟨_, hret, ⟨rfl, rfl⟩, L3⟩)
def f_t_out (a0 : Int32) (h : XH) : Option (Int32 × XH) := (Option.bind (f_b_octetOrNone 3 a0 h) fun r1 => (some (r1.1, r1.2)))
set_option maxRecDepth 20000 in
theorem kf_t_out {l : Launch} {G : XG} {d : Nat} {a0 : Int32} {h : XH} {r : Int32 × XH} (L0 : LY h) (hf : f_t_out a0 h = some r) : XC l G xEX11_out (d + 2) [.ref 0, .int a0] h (fun v h2 => (h2 = r.2 ∧ v = some (.int r.1)) ∧ LY r.2) := by
  refine XC.virt xvX11_out (Nat.le_of_ble_eq_true rfl) ?_
  unfold f_t_out at hf
  refine XR.norm (L3 := [some (.ref 0), some (.int a0)]) rfl ?_
  refine XS.go (s_aloadn rfl rfl rfl) ?_
  refine XS.go (s_getr rfl xf11_16 (LY.lt L0 (by decide)) (LY.k0 L0) (by decide) rfl (LY.r0_1 L0)) ?_
  refine XS.go (s_iloadn rfl rfl rfl) ?_
  replace hf := xb_some hf
  obtain ⟨r1, e2, hf⟩ := hf
  refine r_callv rfl xvX1_octetOrNone xm11_332 (kf_b_octetOrNone (d := d) L0 e2) (LY.lt L0 (by decide)) (LY.k3 L0) (by decide) rfl rfl (dl (by decide)) (by decide) (Nat.le_of_ble_eq_true rfl) ?_
  rintro _ _ ⟨⟨rfl, rfl⟩, L3⟩
  cases hf
  exact XR.reti rfl rfl (fun hret => ⟨_, hret, ⟨rfl, rfl⟩, L3⟩)
def f_t_count (a0 : Int32) (h : XH) : Option (Int32 × XH) := (if a0 = 0 then (some ((hi h 1 1), h)) else (if a0 = 1 then (some ((hi h 5 1), h)) else (if a0 = 2 then (some ((hi h 1244 1), h)) else (if a0 = 3 then (some ((hi h 1244 7), h)) else (if a0 = 4 then (some ((hi h 1244 10), h)) else (if a0 = 5 then (some ((hi h 3 1), h)) else (if a0 = 6 then (some ((hi h 1256 1), h)) else (if a0 = 7 then (some ((hi h 1244 9), h)) else (if a0 = 8 then (some ((hi h 0 12), h)) else (some ((-1), h)))))))))))
set_option maxRecDepth 20000 in
theorem kf_t_count {l : Launch} {G : XG} {d : Nat} {a0 : Int32} {h : XH} {r : Int32 × XH} (L0 : LY h) (hf : f_t_count a0 h = some r) : XC l G xEX11_count d [.ref 0, .int a0] h (fun v h2 => (h2 = r.2 ∧ v = some (.int r.1)) ∧ LY r.2) := by
  refine XC.virt xvX11_count (Nat.le_of_ble_eq_true rfl) ?_
  unfold f_t_count at hf
  refine XR.norm (L3 := [some (.ref 0), some (.int a0)]) rfl ?_
  refine XS.go (s_iloadn rfl rfl rfl) ?_
  by_cases qs1_0 : a0 = 0
  · replace hf := xi_pos hf qs1_0
    refine XS.go (s_tswI (tgt := 52) rfl (by rw [qs1_0]; decide) (by rw [qs1_0]; decide) (by rw [qs1_0]; rfl) rfl) ?_
    refine XS.go (s_aloadn rfl rfl rfl) ?_
    refine XS.go (s_getr rfl xf11_10 (LY.lt L0 (by decide)) (LY.k0 L0) (by decide) rfl (LY.r0_0 L0)) ?_
    refine XS.go (s_getie rfl xf11_73 (LY.lt L0 (by decide)) (LY.k1 L0) (by decide) rfl rfl) ?_
    cases hf
    exact XR.reti rfl rfl (fun hret => ⟨_, hret, ⟨rfl, rfl⟩, L0⟩)
  replace hf := xi_neg hf qs1_0
  by_cases qs1_1 : a0 = 1
  · replace hf := xi_pos hf qs1_1
    refine XS.go (s_tswI (tgt := 60) rfl (by rw [qs1_1]; decide) (by rw [qs1_1]; decide) (by rw [qs1_1]; rfl) rfl) ?_
    refine XS.go (s_aloadn rfl rfl rfl) ?_
    refine XS.go (s_getr rfl xf11_22 (LY.lt L0 (by decide)) (LY.k0 L0) (by decide) rfl (LY.r0_2 L0)) ?_
    refine XS.go (s_getie rfl xf11_335 (LY.lt L0 (by decide)) (LY.k5 L0) (by decide) rfl rfl) ?_
    cases hf
    exact XR.reti rfl rfl (fun hret => ⟨_, hret, ⟨rfl, rfl⟩, L0⟩)
  replace hf := xi_neg hf qs1_1
  by_cases qs1_2 : a0 = 2
  · replace hf := xi_pos hf qs1_2
    refine XS.go (s_tswI (tgt := 68) rfl (by rw [qs1_2]; decide) (by rw [qs1_2]; decide) (by rw [qs1_2]; rfl) rfl) ?_
    refine XS.go (s_aloadn rfl rfl rfl) ?_
    refine XS.go (s_getr rfl xf11_46 (LY.lt L0 (by decide)) (LY.k0 L0) (by decide) rfl (LY.r0_6 L0)) ?_
    refine XS.go (s_getie rfl xf11_331 (LY.lt L0 (by decide)) (LY.k1244 L0) (by decide) rfl rfl) ?_
    cases hf
    exact XR.reti rfl rfl (fun hret => ⟨_, hret, ⟨rfl, rfl⟩, L0⟩)
  replace hf := xi_neg hf qs1_2
  by_cases qs1_3 : a0 = 3
  · replace hf := xi_pos hf qs1_3
    refine XS.go (s_tswI (tgt := 76) rfl (by rw [qs1_3]; decide) (by rw [qs1_3]; decide) (by rw [qs1_3]; rfl) rfl) ?_
    refine XS.go (s_aloadn rfl rfl rfl) ?_
    refine XS.go (s_getr rfl xf11_46 (LY.lt L0 (by decide)) (LY.k0 L0) (by decide) rfl (LY.r0_6 L0)) ?_
    refine XS.go (s_getie rfl xf11_336 (LY.lt L0 (by decide)) (LY.k1244 L0) (by decide) rfl rfl) ?_
    cases hf
    exact XR.reti rfl rfl (fun hret => ⟨_, hret, ⟨rfl, rfl⟩, L0⟩)
  replace hf := xi_neg hf qs1_3
  by_cases qs1_4 : a0 = 4
  · replace hf := xi_pos hf qs1_4
    refine XS.go (s_tswI (tgt := 84) rfl (by rw [qs1_4]; decide) (by rw [qs1_4]; decide) (by rw [qs1_4]; rfl) rfl) ?_
    refine XS.go (s_aloadn rfl rfl rfl) ?_
    refine XS.go (s_getr rfl xf11_46 (LY.lt L0 (by decide)) (LY.k0 L0) (by decide) rfl (LY.r0_6 L0)) ?_
    refine XS.go (s_getie rfl xf11_286 (LY.lt L0 (by decide)) (LY.k1244 L0) (by decide) rfl rfl) ?_
    cases hf
    exact XR.reti rfl rfl (fun hret => ⟨_, hret, ⟨rfl, rfl⟩, L0⟩)
  replace hf := xi_neg hf qs1_4
  by_cases qs1_5 : a0 = 5
  · replace hf := xi_pos hf qs1_5
    refine XS.go (s_tswI (tgt := 92) rfl (by rw [qs1_5]; decide) (by rw [qs1_5]; decide) (by rw [qs1_5]; rfl) rfl) ?_
    refine XS.go (s_aloadn rfl rfl rfl) ?_
    refine XS.go (s_getr rfl xf11_16 (LY.lt L0 (by decide)) (LY.k0 L0) (by decide) rfl (LY.r0_1 L0)) ?_
    refine XS.go (s_getie rfl xf11_73 (LY.lt L0 (by decide)) (LY.k3 L0) (by decide) rfl rfl) ?_
    cases hf
    exact XR.reti rfl rfl (fun hret => ⟨_, hret, ⟨rfl, rfl⟩, L0⟩)
  replace hf := xi_neg hf qs1_5
  by_cases qs1_6 : a0 = 6
  · replace hf := xi_pos hf qs1_6
    refine XS.go (s_tswI (tgt := 100) rfl (by rw [qs1_6]; decide) (by rw [qs1_6]; decide) (by rw [qs1_6]; rfl) rfl) ?_
    refine XS.go (s_aloadn rfl rfl rfl) ?_
    refine XS.go (s_getr rfl xf11_53 (LY.lt L0 (by decide)) (LY.k0 L0) (by decide) rfl (LY.r0_7 L0)) ?_
    refine XS.go (s_getr rfl xf11_339 (LY.lt L0 (by decide)) (LY.k1255 L0) (by decide) rfl (LY.r1255_0 L0)) ?_
    refine XS.go (s_getie rfl xf11_73 (LY.lt L0 (by decide)) (LY.k1256 L0) (by decide) rfl rfl) ?_
    cases hf
    exact XR.reti rfl rfl (fun hret => ⟨_, hret, ⟨rfl, rfl⟩, L0⟩)
  replace hf := xi_neg hf qs1_6
  by_cases qs1_7 : a0 = 7
  · replace hf := xi_pos hf qs1_7
    refine XS.go (s_tswI (tgt := 111) rfl (by rw [qs1_7]; decide) (by rw [qs1_7]; decide) (by rw [qs1_7]; rfl) rfl) ?_
    refine XS.go (s_aloadn rfl rfl rfl) ?_
    refine XS.go (s_getr rfl xf11_46 (LY.lt L0 (by decide)) (LY.k0 L0) (by decide) rfl (LY.r0_6 L0)) ?_
    refine XS.go (s_getie rfl xf11_342 (LY.lt L0 (by decide)) (LY.k1244 L0) (by decide) rfl rfl) ?_
    cases hf
    exact XR.reti rfl rfl (fun hret => ⟨_, hret, ⟨rfl, rfl⟩, L0⟩)
  replace hf := xi_neg hf qs1_7
  by_cases qs1_8 : a0 = 8
  · replace hf := xi_pos hf qs1_8
    refine XS.go (s_tswI (tgt := 119) rfl (by rw [qs1_8]; decide) (by rw [qs1_8]; decide) (by rw [qs1_8]; rfl) rfl) ?_
    refine XS.go (s_aloadn rfl rfl rfl) ?_
    refine XS.go (s_getie rfl xf11_70 (LY.lt L0 (by decide)) (LY.k0 L0) (by decide) rfl rfl) ?_
    cases hf
    exact XR.reti rfl rfl (fun hret => ⟨_, hret, ⟨rfl, rfl⟩, L0⟩)
  replace hf := xi_neg hf qs1_8
  have qs1_o : (a0).toInt < 0 ∨ 8 < (a0).toInt := by
    refine tsw_out 0 8 (by decide) ?_
    intro k h1 h2
    have z : k = 0 ∨ k = 1 ∨ k = 2 ∨ k = 3 ∨ k = 4 ∨ k = 5 ∨ k = 6 ∨ k = 7 ∨ k = 8 := by omega
    rcases z with rfl | rfl | rfl | rfl | rfl | rfl | rfl | rfl | rfl
    · exact qs1_0
    · exact qs1_1
    · exact qs1_2
    · exact qs1_3
    · exact qs1_4
    · exact qs1_5
    · exact qs1_6
    · exact qs1_7
    · exact qs1_8
  refine XS.go (s_tswO (tgt := 124) rfl qs1_o rfl) ?_
  refine XS.go (s_iconst (v := (-1)) rfl rfl) ?_
  cases hf
  exact XR.reti rfl rfl (fun hret => ⟨_, hret, ⟨rfl, rfl⟩, L0⟩)
def b_t_load_53 (x2 : Nat) (x3 : Int32) (h : XH) : Option (Sum Int32 Nat × XH) := (Option.bind (hr h 0 4) fun b1 => (if b1 < hz h ∧ hk h b1 = 9 then (if ¬ (hi h b1 5) = (-1) then (if hz h < 1000000 then (Option.bind (hr (hnew h 5 6) 0 4) fun b7 => (if (hz h) < hz (hnew h 5 6) ∧ hk (hnew h 5 6) (hz h) = 5 then (Option.bind (f_j_init (hz h) b7 x2 x3 (hnew h 5 6)) fun r10 => (if (hz h) < hz r10.2 ∧ hk r10.2 (hz h) = 5 then (Option.bind (f_j_accepts (hz h) r10.2) fun r14 => (if (hz h) < hz r14.2 ∧ hk r14.2 (hz h) = 5 then (if r14.1 = 0 then (if r14.1 = 0 ∨ r14.1 = 1 then (some (Sum.inl r14.1, (hsi (hsi r14.2 0 10 (hi r14.2 (hz h) 4)) 0 11 (hi r14.2 (hz h) 5)))) else none) else (Option.bind (hr r14.2 0 4) fun b20 => (if b20 < hz r14.2 ∧ hk r14.2 b20 = 9 then (Option.bind (f_r_accept x2 x3 (hi r14.2 b20 5) (hsi (hsi (hsi r14.2 0 10 (hi r14.2 (hz h) 4)) 0 11 (hi r14.2 (hz h) 5)) 0 12 (hi r14.2 (hz h) 3))) fun r23 => (if r14.1 = 0 ∨ r14.1 = 1 then (some (Sum.inl r14.1, r23.2)) else none)) else none))) else none)) else none)) else none)) else none) else (if hz h < 1000000 then (some (Sum.inr 1, hthr h)) else none)) else none))
set_option maxRecDepth 20000 in
theorem kb_t_load_53 {l : Launch} {G : XG} {d : Nat} {x2 : Nat} {x3 : Int32} {h : XH} {r : Sum Int32 Nat × XH} (L0 : LY h) (hf : b_t_load_53 x2 x3 h = some r) : XR l G xEX11_load (d + 202) (53, [some (.ref 0), none, some (.ref x2), some (.int x3), none, none], [], h) (fun C => (∃ v, xRet xEX11_load C v ∧ (C.2.2.2 = r.2 ∧ ∃ x, r.1 = Sum.inl x ∧ v = some (.int x)) ∧ LY r.2) ∨ ∃ k E, r.1 = Sum.inr k ∧ xXs[k]? = some E ∧ XThrown xEX11_load C E ∧ hthr C.2.2.2 = r.2 ∧ LY r.2) := by
  unfold b_t_load_53 at hf
  refine XS.go (s_aloadn rfl rfl rfl) ?_
  replace hf := xb_some hf
  obtain ⟨b1, qr2, hf⟩ := hf
  refine XS.go (s_getr rfl xf11_36 (LY.lt L0 (by decide)) (LY.k0 L0) (by decide) rfl qr2) ?_
  replace hf := xi_none hf
  obtain ⟨qk3, hf⟩ := hf
  refine XS.go (s_getie rfl xf11_131 qk3.1 qk3.2 (by decide) rfl rfl) ?_
  refine XS.go (s_iconst (v := (-1)) rfl rfl) ?_
  refine r_icmp_ne (tgt := 75) rfl rfl (fun qc4 => ?_) (fun qc4 => ?_)
  · replace hf := xi_pos hf qc4
    replace hf := xi_none hf
    obtain ⟨qk5, hf⟩ := hf
    have L6 : LY (hnew h 5 6) := LY.new L0 qk5
    refine XS.go (s_new (ci := 5) rfl (lg_3 175 rfl rfl) (by decide) rfl qk5) ?_
    refine XS.go (s_dup rfl rfl) ?_
    refine XS.go (s_aloadn rfl rfl rfl) ?_
    replace hf := xb_some hf
    obtain ⟨b7, qr8, hf⟩ := hf
    refine XS.go (s_getr rfl xf11_36 (LY.lt L6 (by decide)) (LY.k0 L6) (by decide) rfl qr8) ?_
    refine XS.go (s_aloadn rfl rfl rfl) ?_
    refine XS.go (s_iloadn rfl rfl rfl) ?_
    replace hf := xi_none hf
    obtain ⟨qk9, hf⟩ := hf
    replace hf := xb_some hf
    obtain ⟨r10, e11, hf⟩ := hf
    refine r_calli rfl xnX5_init rfl xm11_351 (kf_j_init (d := d) L6 e11) rfl rfl (dl (by decide)) (by decide) (Nat.le_of_ble_eq_true rfl) ?_
    rintro _ _ ⟨⟨rfl, rfl⟩, L12⟩
    refine XS.go (XS.lcl (L3 := [some (.ref 0), none, some (.ref x2), some (.int x3), some (.ref (hz h)), none]) (s_astore rfl (Nat.le_of_ble_eq_true rfl)) rfl) ?_
    refine XS.go (s_aload rfl rfl) ?_
    replace hf := xi_none hf
    obtain ⟨qk13, hf⟩ := hf
    replace hf := xb_some hf
    obtain ⟨r14, e15, hf⟩ := hf
    refine r_callv rfl xvX5_accepts xm11_354 (kf_j_accepts (d := d) L12 e15) qk13.1 qk13.2 (by decide) rfl rfl (dl (by decide)) (by decide) (Nat.le_of_ble_eq_true rfl) ?_
    rintro _ _ ⟨⟨rfl, rfl⟩, L16⟩
    refine XS.go (XS.lcl (L3 := [some (.ref 0), none, some (.ref x2), some (.int x3), some (.ref (hz h)), some (.int r14.1)]) (s_istore rfl (Nat.le_of_ble_eq_true rfl)) rfl) ?_
    refine XS.go (s_aloadn rfl rfl rfl) ?_
    refine XS.go (s_aload rfl rfl) ?_
    replace hf := xi_none hf
    obtain ⟨qk17, hf⟩ := hf
    refine XS.go (s_getie rfl xf11_357 qk17.1 qk17.2 (by decide) rfl rfl) ?_
    refine XS.go (s_puti rfl xf11_64 (LY.lt L16 (by decide)) (LY.k0 L16) (by decide) rfl (Or.inl rfl)) ?_
    refine XS.go (s_aloadn rfl rfl rfl) ?_
    refine XS.go (s_aload rfl rfl) ?_
    refine XS.go (s_getie rfl xf11_358 (show (hz h) < hz _ by simp only [hz_hsi, hk_hsi, hz_hsj, hk_hsj]; exact qk17.1) (by simp only [hz_hsi, hk_hsi, hz_hsj, hk_hsj]; exact qk17.2) (by decide) rfl (hi_hsi_nk (by decide))) ?_
    refine XS.go (s_puti rfl xf11_67 (LY.lt (by simp only [LY_si, LY_sj]; exact L16) (by decide)) (LY.k0 (by simp only [LY_si, LY_sj]; exact L16)) (by decide) rfl (Or.inl rfl)) ?_
    refine XS.go (s_iload rfl rfl) ?_
    refine r_if_eq (tgt := 145) rfl rfl (fun qc18 => ?_) (fun qc18 => ?_)
    · replace hf := xi_pos hf qc18
      refine XS.go (s_iload rfl rfl) ?_
      replace hf := xi_none hf
      obtain ⟨qk19, hf⟩ := hf
      cases hf
      exact XR.retz rfl rfl qk19 (fun hret => Or.inl ⟨_, hret, ⟨rfl, ⟨_, rfl, rfl⟩⟩, (by simp only [LY_si, LY_sj]; exact L16)⟩)
    · replace hf := xi_neg hf qc18
      refine XS.go (s_aloadn rfl rfl rfl) ?_
      refine XS.go (s_aload rfl rfl) ?_
      refine XS.go (s_getie rfl xf11_359 (show (hz h) < hz _ by simp only [hz_hsi, hk_hsi, hz_hsj, hk_hsj]; exact qk17.1) (by simp only [hz_hsi, hk_hsi, hz_hsj, hk_hsj]; exact qk17.2) (by decide) rfl ((hi_hsi_nk (by decide)).trans (hi_hsi_nk (by decide)))) ?_
      refine XS.go (s_puti rfl xf11_70 (LY.lt (by simp only [LY_si, LY_sj]; exact L16) (by decide)) (LY.k0 (by simp only [LY_si, LY_sj]; exact L16)) (by decide) rfl (Or.inl rfl)) ?_
      refine XS.go (s_aloadn rfl rfl rfl) ?_
      refine XS.go (s_getr rfl xf11_53 (LY.lt (by simp only [LY_si, LY_sj]; exact L16) (by decide)) (LY.k0 (by simp only [LY_si, LY_sj]; exact L16)) (by decide) rfl (LY.r0_7 (by simp only [LY_si, LY_sj]; exact L16))) ?_
      refine XS.go (s_aloadn rfl rfl rfl) ?_
      refine XS.go (s_iloadn rfl rfl rfl) ?_
      refine XS.go (s_aloadn rfl rfl rfl) ?_
      replace hf := xb_some hf
      obtain ⟨b20, qr21, hf⟩ := hf
      refine XS.go (s_getr rfl xf11_36 (LY.lt (by simp only [LY_si, LY_sj]; exact L16) (by decide)) (LY.k0 (by simp only [LY_si, LY_sj]; exact L16)) (by decide) rfl (by simp only [hr_hsi, hr_hsj]; exact qr21)) ?_
      replace hf := xi_none hf
      obtain ⟨qk22, hf⟩ := hf
      refine XS.go (s_getie rfl xf11_131 (show b20 < hz _ by simp only [hz_hsi, hk_hsi, hz_hsj, hk_hsj]; exact qk22.1) (by simp only [hz_hsi, hk_hsi, hz_hsj, hk_hsj]; exact qk22.2) (by decide) rfl ((hi_hsi_nk (by decide)).trans ((hi_hsi_nk (by decide)).trans (hi_hsi_nk (by decide))))) ?_
      replace hf := xb_some hf
      obtain ⟨r23, e24, hf⟩ := hf
      refine r_callv rfl xvX8_accept xm11_360 (kf_r_accept (d := d) (by simp only [LY_si, LY_sj]; exact L16) e24) (LY.lt (by simp only [LY_si, LY_sj]; exact L16) (by decide)) (LY.k1255 (by simp only [LY_si, LY_sj]; exact L16)) (by decide) rfl rfl (dl (by decide)) (by decide) (Nat.le_of_ble_eq_true rfl) ?_
      rintro _ _ ⟨⟨rfl, rfl⟩, L25⟩
      refine XS.go (s_iload rfl rfl) ?_
      replace hf := xi_none hf
      obtain ⟨qk26, hf⟩ := hf
      cases hf
      exact XR.retz rfl rfl qk26 (fun hret => Or.inl ⟨_, hret, ⟨rfl, ⟨_, rfl, rfl⟩⟩, L25⟩)
  · replace hf := xi_neg hf qc4
    replace hf := xi_none hf
    obtain ⟨qk27, hf⟩ := hf
    cases hf
    exact XR.here (Or.inr ⟨1, _, rfl, rfl, ⟨216, 347, 220, 33, _, rfl, xthr1, ⟨⟨rfl, rfl, rfl⟩, Or.inr ⟨rfl, rfl, rfl⟩⟩, qk27⟩, rfl, LY.new L0 qk27⟩)
def b_t_load_35 (x1 : Int32) (y0 : Nat) (h : XH) : Option (Sum Int32 Nat × XH) := (if y0 < hz h ∧ hk h y0 = 1 then (if ¬ x1 = 0 then (b_t_load_53 y0 (hi h y0 1) h) else (b_t_load_53 y0 (hi h y0 1) (hsi h 1 1 0))) else none)
set_option maxRecDepth 20000 in
theorem kb_t_load_35 {l : Launch} {G : XG} {d : Nat} {x1 : Int32} {y0 : Nat} {h : XH} {r : Sum Int32 Nat × XH} (L0 : LY h) (hf : b_t_load_35 x1 y0 h = some r) : XR l G xEX11_load (d + 202) (35, [some (.ref 0), some (.int x1), none, none, none, none], [(.ref y0)], h) (fun C => (∃ v, xRet xEX11_load C v ∧ (C.2.2.2 = r.2 ∧ ∃ x, r.1 = Sum.inl x ∧ v = some (.int x)) ∧ LY r.2) ∨ ∃ k E, r.1 = Sum.inr k ∧ xXs[k]? = some E ∧ XThrown xEX11_load C E ∧ hthr C.2.2.2 = r.2 ∧ LY r.2) := by
  unfold b_t_load_35 at hf
  refine XS.go (XS.lcl (L3 := [some (.ref 0), some (.int x1), some (.ref y0), none, none, none]) (s_astoren rfl rfl (Nat.le_of_ble_eq_true rfl)) rfl) ?_
  refine XS.go (s_aloadn rfl rfl rfl) ?_
  replace hf := xi_none hf
  obtain ⟨qk28, hf⟩ := hf
  refine XS.go (s_getie rfl xf11_73 qk28.1 qk28.2 (by decide) rfl rfl) ?_
  refine XS.go (XS.lcl (L3 := [some (.ref 0), some (.int x1), some (.ref y0), some (.int (hi h y0 1)), none, none]) (s_istoren rfl rfl (Nat.le_of_ble_eq_true rfl)) rfl) ?_
  refine XS.go (s_iloadn rfl rfl rfl) ?_
  refine r_if_ne (tgt := 53) rfl rfl (fun qc29 => ?_) (fun qc29 => ?_)
  · replace hf := xi_pos hf qc29
    exact XR.forget (L2 := [some (.ref 0), none, some (.ref y0), some (.int (hi h y0 1)), none, none]) ⟨rfl, ⟨rfl, ⟨rfl, trivial⟩⟩⟩ (kb_t_load_53 L0 hf)
  · replace hf := xi_neg hf qc29
    refine XS.go (s_aloadn rfl rfl rfl) ?_
    refine XS.go (s_getr rfl xf11_10 (LY.lt L0 (by decide)) (LY.k0 L0) (by decide) rfl (LY.r0_0 L0)) ?_
    refine XS.go (s_iconst (v := 0) rfl rfl) ?_
    refine XS.go (s_puti rfl xf11_73 (LY.lt L0 (by decide)) (LY.k1 L0) (by decide) rfl (Or.inl rfl)) ?_
    exact XR.forget (L2 := [some (.ref 0), none, some (.ref y0), some (.int (hi h y0 1)), none, none]) ⟨rfl, ⟨rfl, ⟨rfl, trivial⟩⟩⟩ (kb_t_load_53 (by simp only [LY_si, LY_sj]; exact L0) hf)
def b_t_load_20 (x1 : Int32) (h : XH) : Option (Sum Int32 Nat × XH) := (if ¬ x1 = 0 then (b_t_load_35 x1 3 h) else (b_t_load_35 x1 1 h))
set_option maxRecDepth 20000 in
theorem kb_t_load_20 {l : Launch} {G : XG} {d : Nat} {x1 : Int32} {h : XH} {r : Sum Int32 Nat × XH} (L0 : LY h) (hf : b_t_load_20 x1 h = some r) : XR l G xEX11_load (d + 202) (20, [some (.ref 0), some (.int x1), none, none, none, none], [], h) (fun C => (∃ v, xRet xEX11_load C v ∧ (C.2.2.2 = r.2 ∧ ∃ x, r.1 = Sum.inl x ∧ v = some (.int x)) ∧ LY r.2) ∨ ∃ k E, r.1 = Sum.inr k ∧ xXs[k]? = some E ∧ XThrown xEX11_load C E ∧ hthr C.2.2.2 = r.2 ∧ LY r.2) := by
  unfold b_t_load_20 at hf
  refine XS.go (s_iloadn rfl rfl rfl) ?_
  refine r_if_ne (tgt := 31) rfl rfl (fun qc30 => ?_) (fun qc30 => ?_)
  · replace hf := xi_pos hf qc30
    refine XS.go (s_aloadn rfl rfl rfl) ?_
    refine XS.go (s_getr rfl xf11_16 (LY.lt L0 (by decide)) (LY.k0 L0) (by decide) rfl (LY.r0_1 L0)) ?_
    exact XR.forget (L2 := [some (.ref 0), some (.int x1), none, none, none, none]) ⟨rfl, ⟨rfl, trivial⟩⟩ (kb_t_load_35 L0 hf)
  · replace hf := xi_neg hf qc30
    refine XS.go (s_aloadn rfl rfl rfl) ?_
    refine XS.go (s_getr rfl xf11_10 (LY.lt L0 (by decide)) (LY.k0 L0) (by decide) rfl (LY.r0_0 L0)) ?_
    refine XS.go (s_goto (tgt := 35) rfl rfl) ?_
    exact XR.forget (L2 := [some (.ref 0), some (.int x1), none, none, none, none]) ⟨rfl, ⟨rfl, trivial⟩⟩ (kb_t_load_35 L0 hf)
def f_t_load (a0 : Int32) (h : XH) : Option (Sum Int32 Nat × XH) := (if a0 = 0 then (b_t_load_20 a0 h) else (if a0 = 1 then (b_t_load_20 a0 h) else (if hz h < 1000000 then (some (Sum.inr 0, hthr h)) else none)))
set_option maxRecDepth 20000 in
theorem kf_t_load {l : Launch} {G : XG} {d : Nat} {a0 : Int32} {h : XH} {r : Sum Int32 Nat × XH} (hl : l.stackTraces = false) (L0 : LY h) (hf : f_t_load a0 h = some r) : (∃ x, r.1 = Sum.inl x ∧ XC l G xEX11_load (d + 202) [.ref 0, .int a0] h (fun v h2 => (h2 = r.2 ∧ v = some (.int x)) ∧ LY r.2)) ∨ ∃ k E, r.1 = Sum.inr k ∧ xXs[k]? = some E ∧ XCx l G xEX11_load (d + 202) [.ref 0, .int a0] h E (fun h2 => h2 = r.2 ∧ LY r.2) := by
  refine xe_of (R := Int32) (V := fun x => some (.int x)) hl xvX11_load rfl (Nat.le_of_ble_eq_true rfl) (by omega) ?_
  unfold f_t_load at hf
  refine XR.norm (L3 := [some (.ref 0), some (.int a0), none, none, none, none]) rfl ?_
  refine XS.go (s_iloadn rfl rfl rfl) ?_
  refine r_if_eq (tgt := 20) rfl rfl (fun qc31 => ?_) (fun qc31 => ?_)
  · replace hf := xi_pos hf qc31
    exact XR.forget (L2 := [some (.ref 0), some (.int a0), none, none, none, none]) ⟨rfl, ⟨rfl, trivial⟩⟩ (kb_t_load_20 L0 hf)
  · replace hf := xi_neg hf qc31
    refine XS.go (s_iloadn rfl rfl rfl) ?_
    refine XS.go (s_iconst (v := 1) rfl rfl) ?_
    refine r_icmp_eq (tgt := 20) rfl rfl (fun qc32 => ?_) (fun qc32 => ?_)
    · replace hf := xi_pos hf qc32
      exact XR.forget (L2 := [some (.ref 0), some (.int a0), none, none, none, none]) ⟨rfl, ⟨rfl, trivial⟩⟩ (kb_t_load_20 L0 hf)
    · replace hf := xi_neg hf qc32
      replace hf := xi_none hf
      obtain ⟨qk33, hf⟩ := hf
      cases hf
      exact XR.here (Or.inr ⟨0, _, rfl, rfl, ⟨103, 345, 107, 32, _, rfl, xthr0, ⟨⟨rfl, rfl, rfl⟩, Or.inr ⟨rfl, rfl, rfl⟩⟩, qk33⟩, rfl, LY.new L0 qk33⟩)
