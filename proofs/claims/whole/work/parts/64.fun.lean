/-! Methods as functions of the heap -/
def f_m_value (a0 : Int32) (a1 : Int32) (h : XH) : Option (Int64 × XH) := (Option.bind (f_m_bytesOf a0 h) fun r1 => (Option.bind (f_m_number a1 r1.1 r1.2) fun r4 => (if a0 = 1 then (some ((Int32.toInt64 (Int8.toInt32 (Int32.toInt8 (Int64.toInt32 r4.1)))), r4.2)) else (if a0 = 2 then (some (r4.1, r4.2)) else (if a0 = 3 then (some ((Int32.toInt64 (Int16.toInt32 (Int32.toInt16 (Int64.toInt32 r4.1)))), r4.2)) else (if a0 = 4 then (some (r4.1, r4.2)) else (if a0 = 5 then (some ((Int32.toInt64 (Int64.toInt32 r4.1)), r4.2)) else (if a0 = 6 then (some (r4.1, r4.2)) else (if a0 = 7 then (some (r4.1, r4.2)) else (if a0 = 8 then (some (r4.1, r4.2)) else (if a0 = 9 then (some ((Int32.toInt64 (Int64.toInt32 r4.1)), r4.2)) else (some (r4.1, r4.2)))))))))))))
set_option maxRecDepth 20000 in
theorem kf_m_value {l : Launch} {G : XG} {d : Nat} {a0 : Int32} {a1 : Int32} {h : XH} {r : Int64 × XH} (L0 : LY h) (hf : f_m_value a0 a1 h = some r) : XC l G xEX12_value (d + 1) [.ref 1262, .int a0, .int a1] h (fun v h2 => (h2 = r.2 ∧ v = some (.long r.1)) ∧ LY r.2) := by
  refine XC.virt xvX12_value (Nat.le_of_ble_eq_true rfl) ?_
  unfold f_m_value at hf
  refine XR.norm (L3 := [some (.ref 1262), some (.int a0), some (.int a1), none, none]) rfl ?_
  refine XS.go (s_aloadn rfl rfl rfl) ?_
  refine XS.go (s_iloadn rfl rfl rfl) ?_
  refine XS.go (s_iloadn rfl rfl rfl) ?_
  replace hf := xb_some hf
  obtain ⟨r1, e2, hf⟩ := hf
  refine r_calls rfl xsX12_bytesOf xm12_315 (kf_m_bytesOf (d := d) L0 e2) rfl rfl (dl0 (by decide)) (by decide) (Nat.le_of_ble_eq_true rfl) ?_
  rintro _ _ ⟨⟨rfl, rfl⟩, L3⟩
  replace hf := xb_some hf
  obtain ⟨r4, e5, hf⟩ := hf
  refine r_callv rfl xvX12_number xm12_467 (kf_m_number (d := d) L3 e5) (LY.lt L3 (by decide)) (LY.k1262 L3) (by decide) rfl rfl (dl0 (by decide)) (by decide) (Nat.le_of_ble_eq_true rfl) ?_
  rintro _ _ ⟨⟨rfl, rfl⟩, L6⟩
  refine XS.go (XS.lcl (L3 := [some (.ref 1262), some (.int a0), some (.int a1), some (.long r4.1), none]) (s_lstoren rfl rfl (Nat.le_of_ble_eq_true rfl)) rfl) ?_
  refine XS.go (s_iloadn rfl rfl rfl) ?_
  by_cases qs7_0 : a0 = 1
  · replace hf := xi_pos hf qs7_0
    refine XS.go (s_tswI (tgt := 60) rfl (by rw [qs7_0]; decide) (by rw [qs7_0]; decide) (by rw [qs7_0]; rfl) rfl) ?_
    refine XS.go (s_lloadn rfl rfl rfl) ?_
    refine XS.go (s_l2i rfl) ?_
    refine XS.go (s_i2b rfl) ?_
    refine XS.go (s_i2l rfl) ?_
    cases hf
    exact XR.retl rfl rfl (fun hret => ⟨_, hret, ⟨rfl, rfl⟩, L6⟩)
  replace hf := xi_neg hf qs7_0
  by_cases qs7_1 : a0 = 2
  · replace hf := xi_pos hf qs7_1
    refine XS.go (s_tswI (tgt := 78) rfl (by rw [qs7_1]; decide) (by rw [qs7_1]; decide) (by rw [qs7_1]; rfl) rfl) ?_
    refine XS.go (s_lloadn rfl rfl rfl) ?_
    cases hf
    exact XR.retl rfl rfl (fun hret => ⟨_, hret, ⟨rfl, rfl⟩, L6⟩)
  replace hf := xi_neg hf qs7_1
  by_cases qs7_2 : a0 = 3
  · replace hf := xi_pos hf qs7_2
    refine XS.go (s_tswI (tgt := 65) rfl (by rw [qs7_2]; decide) (by rw [qs7_2]; decide) (by rw [qs7_2]; rfl) rfl) ?_
    refine XS.go (s_lloadn rfl rfl rfl) ?_
    refine XS.go (s_l2i rfl) ?_
    refine XS.go (s_i2s rfl) ?_
    refine XS.go (s_i2l rfl) ?_
    cases hf
    exact XR.retl rfl rfl (fun hret => ⟨_, hret, ⟨rfl, rfl⟩, L6⟩)
  replace hf := xi_neg hf qs7_2
  by_cases qs7_3 : a0 = 4
  · replace hf := xi_pos hf qs7_3
    refine XS.go (s_tswI (tgt := 78) rfl (by rw [qs7_3]; decide) (by rw [qs7_3]; decide) (by rw [qs7_3]; rfl) rfl) ?_
    refine XS.go (s_lloadn rfl rfl rfl) ?_
    cases hf
    exact XR.retl rfl rfl (fun hret => ⟨_, hret, ⟨rfl, rfl⟩, L6⟩)
  replace hf := xi_neg hf qs7_3
  by_cases qs7_4 : a0 = 5
  · replace hf := xi_pos hf qs7_4
    refine XS.go (s_tswI (tgt := 70) rfl (by rw [qs7_4]; decide) (by rw [qs7_4]; decide) (by rw [qs7_4]; rfl) rfl) ?_
    refine XS.go (s_lloadn rfl rfl rfl) ?_
    refine XS.go (s_l2i rfl) ?_
    refine XS.go (s_i2l rfl) ?_
    cases hf
    exact XR.retl rfl rfl (fun hret => ⟨_, hret, ⟨rfl, rfl⟩, L6⟩)
  replace hf := xi_neg hf qs7_4
  by_cases qs7_5 : a0 = 6
  · replace hf := xi_pos hf qs7_5
    refine XS.go (s_tswI (tgt := 78) rfl (by rw [qs7_5]; decide) (by rw [qs7_5]; decide) (by rw [qs7_5]; rfl) rfl) ?_
    refine XS.go (s_lloadn rfl rfl rfl) ?_
    cases hf
    exact XR.retl rfl rfl (fun hret => ⟨_, hret, ⟨rfl, rfl⟩, L6⟩)
  replace hf := xi_neg hf qs7_5
  by_cases qs7_6 : a0 = 7
  · replace hf := xi_pos hf qs7_6
    refine XS.go (s_tswI (tgt := 78) rfl (by rw [qs7_6]; decide) (by rw [qs7_6]; decide) (by rw [qs7_6]; rfl) rfl) ?_
    refine XS.go (s_lloadn rfl rfl rfl) ?_
    cases hf
    exact XR.retl rfl rfl (fun hret => ⟨_, hret, ⟨rfl, rfl⟩, L6⟩)
  replace hf := xi_neg hf qs7_6
  by_cases qs7_7 : a0 = 8
  · replace hf := xi_pos hf qs7_7
    refine XS.go (s_tswI (tgt := 78) rfl (by rw [qs7_7]; decide) (by rw [qs7_7]; decide) (by rw [qs7_7]; rfl) rfl) ?_
    refine XS.go (s_lloadn rfl rfl rfl) ?_
    cases hf
    exact XR.retl rfl rfl (fun hret => ⟨_, hret, ⟨rfl, rfl⟩, L6⟩)
  replace hf := xi_neg hf qs7_7
  by_cases qs7_8 : a0 = 9
  · replace hf := xi_pos hf qs7_8
    refine XS.go (s_tswI (tgt := 74) rfl (by rw [qs7_8]; decide) (by rw [qs7_8]; decide) (by rw [qs7_8]; rfl) rfl) ?_
    refine XS.go (s_lloadn rfl rfl rfl) ?_
    refine XS.go (s_l2i rfl) ?_
    refine XS.go (s_i2l rfl) ?_
    cases hf
    exact XR.retl rfl rfl (fun hret => ⟨_, hret, ⟨rfl, rfl⟩, L6⟩)
  replace hf := xi_neg hf qs7_8
  have qs7_o : (a0).toInt < 1 ∨ 9 < (a0).toInt := by
    refine tsw_out 1 9 (by decide) ?_
    intro k h1 h2
    have z : k = 1 ∨ k = 2 ∨ k = 3 ∨ k = 4 ∨ k = 5 ∨ k = 6 ∨ k = 7 ∨ k = 8 ∨ k = 9 := by omega
    rcases z with rfl | rfl | rfl | rfl | rfl | rfl | rfl | rfl | rfl
    · exact qs7_0
    · exact qs7_1
    · exact qs7_2
    · exact qs7_3
    · exact qs7_4
    · exact qs7_5
    · exact qs7_6
    · exact qs7_7
    · exact qs7_8
  refine XS.go (s_tswO (tgt := 78) rfl qs7_o rfl) ?_
  refine XS.go (s_lloadn rfl rfl rfl) ?_
  cases hf
  exact XR.retl rfl rfl (fun hret => ⟨_, hret, ⟨rfl, rfl⟩, L6⟩)
def b_m_read_39 (x1 : Int32) (x2 : Int32) (h : XH) : Option (Int64 × XH) := (if ¬ x2 = 4 then (Option.bind (f_m_partAt x1 h) fun r2 => (if ¬ r2.1 = (-1) then (Option.bind (f_m_partOf x1 r2.2) fun r6 => (Option.bind (f_m_value r6.1 r2.1 r6.2) fun r9 => (some (r9.1, r9.2)))) else (Option.bind (f_m_row x1 r2.2) fun r12 => (if 0 ≤ r12.1 ∧ r12.1 < nI 256 then (some ((hj r12.2 1291 (Int32.toNatClampNeg r12.1)), r12.2)) else none)))) else (Option.bind (f_m_which x1 h) fun r16 => (some ((Int32.toInt64 r16.1), r16.2))))
set_option maxRecDepth 20000 in
theorem kb_m_read_39 {l : Launch} {G : XG} {d : Nat} {x1 : Int32} {x2 : Int32} {h : XH} {r : Int64 × XH} (L0 : LY h) (hf : b_m_read_39 x1 x2 h = some r) : XR l G xEX12_read (d + 5) (39, [some (.ref 1262), some (.int x1), some (.int x2), none], [], h) (fun C => ∃ v, xRet xEX12_read C v ∧ (C.2.2.2 = r.2 ∧ v = some (.long r.1)) ∧ LY r.2) := by
  unfold b_m_read_39 at hf
  refine XS.go (s_iloadn rfl rfl rfl) ?_
  refine XS.go (s_iconst (v := 4) rfl rfl) ?_
  refine r_icmp_ne (tgt := 51) rfl rfl (fun qc1 => ?_) (fun qc1 => ?_)
  · replace hf := xi_pos hf qc1
    refine XS.go (s_aloadn rfl rfl rfl) ?_
    refine XS.go (s_iloadn rfl rfl rfl) ?_
    replace hf := xb_some hf
    obtain ⟨r2, e3, hf⟩ := hf
    refine r_callv rfl xvX12_partAt xm12_537 (kf_m_partAt (d := d) L0 e3) (LY.lt L0 (by decide)) (LY.k1262 L0) (by decide) rfl rfl (dl (by decide)) (by decide) (Nat.le_of_ble_eq_true rfl) ?_
    rintro _ _ ⟨⟨rfl, rfl⟩, L4⟩
    refine XS.go (XS.lcl (L3 := [some (.ref 1262), some (.int x1), some (.int x2), some (.int r2.1)]) (s_istoren rfl rfl (Nat.le_of_ble_eq_true rfl)) rfl) ?_
    refine XS.go (s_iloadn rfl rfl rfl) ?_
    refine XS.go (s_iconst (v := (-1)) rfl rfl) ?_
    refine r_icmp_ne (tgt := 75) rfl rfl (fun qc5 => ?_) (fun qc5 => ?_)
    · replace hf := xi_pos hf qc5
      refine XS.go (s_aloadn rfl rfl rfl) ?_
      refine XS.go (s_aloadn rfl rfl rfl) ?_
      refine XS.go (s_iloadn rfl rfl rfl) ?_
      replace hf := xb_some hf
      obtain ⟨r6, e7, hf⟩ := hf
      refine r_callv rfl xvX12_partOf xm12_549 (kf_m_partOf (d := d) L4 e7) (LY.lt L4 (by decide)) (LY.k1262 L4) (by decide) rfl rfl (dl (by decide)) (by decide) (Nat.le_of_ble_eq_true rfl) ?_
      rintro _ _ ⟨⟨rfl, rfl⟩, L8⟩
      refine XS.go (s_iloadn rfl rfl rfl) ?_
      replace hf := xb_some hf
      obtain ⟨r9, e10, hf⟩ := hf
      refine r_callv rfl xvX12_value xm12_552 (kf_m_value (d := d) L8 e10) (LY.lt L8 (by decide)) (LY.k1262 L8) (by decide) rfl rfl (dl (by decide)) (by decide) (Nat.le_of_ble_eq_true rfl) ?_
      rintro _ _ ⟨⟨rfl, rfl⟩, L11⟩
      cases hf
      exact XR.retl rfl rfl (fun hret => ⟨_, hret, ⟨rfl, rfl⟩, L11⟩)
    · replace hf := xi_neg hf qc5
      refine XS.go (s_aloadn rfl rfl rfl) ?_
      refine XS.go (s_getr rfl xf12_94 (LY.lt L4 (by decide)) (LY.k1262 L4) (by decide) rfl (LY.r1262_40 L4)) ?_
      refine XS.go (s_aloadn rfl rfl rfl) ?_
      refine XS.go (s_iloadn rfl rfl rfl) ?_
      replace hf := xb_some hf
      obtain ⟨r12, e13, hf⟩ := hf
      refine r_callv rfl xvX12_row xm12_532 (kf_m_row (d := d) L4 e13) (LY.lt L4 (by decide)) (LY.k1262 L4) (by decide) rfl rfl (dl (by decide)) (by decide) (Nat.le_of_ble_eq_true rfl) ?_
      rintro _ _ ⟨⟨rfl, rfl⟩, L14⟩
      replace hf := xi_none hf
      obtain ⟨qk15, hf⟩ := hf
      refine XS.go (s_lalde rfl (LY.lt L14 (by decide)) (LY.k1291 L14) (inLit (LY.n1291 L14) qk15.1 qk15.2 (by decide)) rfl) ?_
      refine XS.go (s_goto (tgt := 85) rfl rfl) ?_
      cases hf
      exact XR.retl rfl rfl (fun hret => ⟨_, hret, ⟨rfl, rfl⟩, L14⟩)
  · replace hf := xi_neg hf qc1
    refine XS.go (s_aloadn rfl rfl rfl) ?_
    refine XS.go (s_iloadn rfl rfl rfl) ?_
    replace hf := xb_some hf
    obtain ⟨r16, e17, hf⟩ := hf
    refine r_callv rfl xvX12_which xm12_546 (kf_m_which (d := d) L0 e17) (LY.lt L0 (by decide)) (LY.k1262 L0) (by decide) rfl rfl (dl (by decide)) (by decide) (Nat.le_of_ble_eq_true rfl) ?_
    rintro _ _ ⟨⟨rfl, rfl⟩, L18⟩
    refine XS.go (s_i2l rfl) ?_
    cases hf
    exact XR.retl rfl rfl (fun hret => ⟨_, hret, ⟨rfl, rfl⟩, L18⟩)
def b_m_read_22 (x1 : Int32) (y0 : Int32) (h : XH) : Option (Int64 × XH) := (if y0 = 0 then (b_m_read_39 x1 y0 h) else (if y0 = 4 then (b_m_read_39 x1 y0 h) else (some ((0 : Int64), (hsi h 1262 0 1)))))
set_option maxRecDepth 20000 in
theorem kb_m_read_22 {l : Launch} {G : XG} {d : Nat} {x1 : Int32} {y0 : Int32} {h : XH} {r : Int64 × XH} (L0 : LY h) (hf : b_m_read_22 x1 y0 h = some r) : XR l G xEX12_read (d + 5) (22, [some (.ref 1262), some (.int x1), none, none], [(.int y0)], h) (fun C => ∃ v, xRet xEX12_read C v ∧ (C.2.2.2 = r.2 ∧ v = some (.long r.1)) ∧ LY r.2) := by
  unfold b_m_read_22 at hf
  refine XS.go (XS.lcl (L3 := [some (.ref 1262), some (.int x1), some (.int y0), none]) (s_istoren rfl rfl (Nat.le_of_ble_eq_true rfl)) rfl) ?_
  refine XS.go (s_iloadn rfl rfl rfl) ?_
  refine r_if_eq (tgt := 39) rfl rfl (fun qc19 => ?_) (fun qc19 => ?_)
  · replace hf := xi_pos hf qc19
    exact XR.forget (L2 := [some (.ref 1262), some (.int x1), some (.int y0), none]) ⟨rfl, ⟨rfl, ⟨rfl, trivial⟩⟩⟩ (kb_m_read_39 L0 hf)
  · replace hf := xi_neg hf qc19
    refine XS.go (s_iloadn rfl rfl rfl) ?_
    refine XS.go (s_iconst (v := 4) rfl rfl) ?_
    refine r_icmp_eq (tgt := 39) rfl rfl (fun qc20 => ?_) (fun qc20 => ?_)
    · replace hf := xi_pos hf qc20
      exact XR.forget (L2 := [some (.ref 1262), some (.int x1), some (.int y0), none]) ⟨rfl, ⟨rfl, ⟨rfl, trivial⟩⟩⟩ (kb_m_read_39 L0 hf)
    · replace hf := xi_neg hf qc20
      refine XS.go (s_aloadn rfl rfl rfl) ?_
      refine XS.go (s_iconst (v := 1) rfl rfl) ?_
      refine XS.go (s_puti rfl xf12_175 (LY.lt L0 (by decide)) (LY.k1262 L0) (by decide) rfl (Or.inl rfl)) ?_
      refine XS.go (s_lconst (v := 0) rfl rfl) ?_
      cases hf
      exact XR.retl rfl rfl (fun hret => ⟨_, hret, ⟨rfl, rfl⟩, (by simp only [LY_si, LY_sj]; exact L0)⟩)
def f_m_read (a0 : Int32) (h : XH) : Option (Int64 × XH) := (Option.bind (f_m_isPart a0 (hsi h 1262 0 0)) fun r21 => (if r21.1 = 0 then (b_m_read_22 a0 (-1) r21.2) else (Option.bind (f_m_partSort a0 r21.2) fun r25 => (b_m_read_22 a0 r25.1 r25.2))))
set_option maxRecDepth 20000 in
theorem kf_m_read {l : Launch} {G : XG} {d : Nat} {a0 : Int32} {h : XH} {r : Int64 × XH} (L0 : LY h) (hf : f_m_read a0 h = some r) : XC l G xEX12_read (d + 5) [.ref 1262, .int a0] h (fun v h2 => (h2 = r.2 ∧ v = some (.long r.1)) ∧ LY r.2) := by
  refine XC.virt xvX12_read (Nat.le_of_ble_eq_true rfl) ?_
  unfold f_m_read at hf
  refine XR.norm (L3 := [some (.ref 1262), some (.int a0), none, none]) rfl ?_
  refine XS.go (s_aloadn rfl rfl rfl) ?_
  refine XS.go (s_iconst (v := 0) rfl rfl) ?_
  refine XS.go (s_puti rfl xf12_175 (LY.lt L0 (by decide)) (LY.k1262 L0) (by decide) rfl (Or.inl rfl)) ?_
  refine XS.go (s_aloadn rfl rfl rfl) ?_
  refine XS.go (s_iloadn rfl rfl rfl) ?_
  replace hf := xb_some hf
  obtain ⟨r21, e22, hf⟩ := hf
  refine r_callv rfl xvX12_isPart xm12_540 (kf_m_isPart (d := d) (by simp only [LY_si, LY_sj]; exact L0) e22) (LY.lt (by simp only [LY_si, LY_sj]; exact L0) (by decide)) (LY.k1262 (by simp only [LY_si, LY_sj]; exact L0)) (by decide) rfl rfl (dl (by decide)) (by decide) (Nat.le_of_ble_eq_true rfl) ?_
  rintro _ _ ⟨⟨rfl, rfl⟩, L23⟩
  refine r_if_eq (tgt := 21) rfl rfl (fun qc24 => ?_) (fun qc24 => ?_)
  · replace hf := xi_pos hf qc24
    refine XS.go (s_iconst (v := (-1)) rfl rfl) ?_
    exact XR.forget (L2 := [some (.ref 1262), some (.int a0), none, none]) ⟨rfl, ⟨rfl, trivial⟩⟩ (kb_m_read_22 L23 hf)
  · replace hf := xi_neg hf qc24
    refine XS.go (s_aloadn rfl rfl rfl) ?_
    refine XS.go (s_iloadn rfl rfl rfl) ?_
    replace hf := xb_some hf
    obtain ⟨r25, e26, hf⟩ := hf
    refine r_callv rfl xvX12_partSort xm12_543 (kf_m_partSort (d := d) L23 e26) (LY.lt L23 (by decide)) (LY.k1262 L23) (by decide) rfl rfl (dl (by decide)) (by decide) (Nat.le_of_ble_eq_true rfl) ?_
    rintro _ _ ⟨⟨rfl, rfl⟩, L27⟩
    refine XS.go (s_goto (tgt := 22) rfl rfl) ?_
    exact XR.forget (L2 := [some (.ref 1262), some (.int a0), none, none]) ⟨rfl, ⟨rfl, trivial⟩⟩ (kb_m_read_22 L27 hf)
def b_m_into_156 (x2 : Int32) (y1 : Int32) (y2 : Int32) (y3 : Int32) (y4 : Int32) (h : XH) : Option (Int32 × XH) := (Option.bind (f_m_enter y1 y2 y3 y4 h) fun r1 => (Option.bind (f_m_told x2 r1.2) fun r4 => (some (r4.1, r4.2))))
set_option maxRecDepth 20000 in
theorem kb_m_into_156 {l : Launch} {G : XG} {d : Nat} {x2 : Int32} {y1 : Int32} {y2 : Int32} {y3 : Int32} {y4 : Int32} {h : XH} {r : Int32 × XH} (L0 : LY h) (hf : b_m_into_156 x2 y1 y2 y3 y4 h = some r) : XR l G xEX12_into (d + 5) (156, [none, none, some (.int x2), none, none, none], [(.int y4), (.int y3), (.int y2), (.int y1), (.ref 1262)], h) (fun C => ∃ v, xRet xEX12_into C v ∧ (C.2.2.2 = r.2 ∧ v = some (.int r.1)) ∧ LY r.2) := by
  unfold b_m_into_156 at hf
  replace hf := xb_some hf
  obtain ⟨r1, e2, hf⟩ := hf
  refine r_callv rfl xvX12_enter xm12_503 (kf_m_enter (d := d) L0 e2) (LY.lt L0 (by decide)) (LY.k1262 L0) (by decide) rfl rfl (dl0 (by decide)) (by decide) (Nat.le_of_ble_eq_true rfl) ?_
  rintro _ _ ⟨⟨rfl, rfl⟩, L3⟩
  refine XS.go (s_iloadn rfl rfl rfl) ?_
  replace hf := xb_some hf
  obtain ⟨r4, e5, hf⟩ := hf
  refine r_calls rfl xsX12_told xm12_524 (kf_m_told (d := d) L3 e5) rfl rfl (dl0 (by decide)) (by decide) (Nat.le_of_ble_eq_true rfl) ?_
  rintro _ _ ⟨⟨rfl, rfl⟩, L6⟩
  cases hf
  exact XR.reti rfl rfl (fun hret => ⟨_, hret, ⟨rfl, rfl⟩, L6⟩)
def b_m_into_133 (x2 : Int32) (x4 : Int32) (x5 : Int32) (y1 : Int32) (y2 : Int32) (h : XH) : Option (Int32 × XH) := (if ¬ x2 = 2 then (Option.bind (f_m_number x4 4 h) fun r8 => (b_m_into_156 x2 y1 y2 x5 (x4 + (Int64.toInt32 r8.1)) r8.2)) else (b_m_into_156 x2 y1 y2 x5 x4 h))
set_option maxRecDepth 20000 in
theorem kb_m_into_133 {l : Launch} {G : XG} {d : Nat} {x2 : Int32} {x4 : Int32} {x5 : Int32} {y1 : Int32} {y2 : Int32} {h : XH} {r : Int32 × XH} (L0 : LY h) (hf : b_m_into_133 x2 x4 x5 y1 y2 h = some r) : XR l G xEX12_into (d + 5) (133, [some (.ref 1262), none, some (.int x2), none, some (.int x4), some (.int x5)], [(.int y2), (.int y1), (.ref 1262)], h) (fun C => ∃ v, xRet xEX12_into C v ∧ (C.2.2.2 = r.2 ∧ v = some (.int r.1)) ∧ LY r.2) := by
  unfold b_m_into_133 at hf
  refine XS.go (s_iload rfl rfl) ?_
  refine XS.go (s_iloadn rfl rfl rfl) ?_
  refine XS.go (s_iconst (v := 2) rfl rfl) ?_
  refine r_icmp_ne (tgt := 145) rfl rfl (fun qc7 => ?_) (fun qc7 => ?_)
  · replace hf := xi_pos hf qc7
    refine XS.go (s_iload rfl rfl) ?_
    refine XS.go (s_aloadn rfl rfl rfl) ?_
    refine XS.go (s_iload rfl rfl) ?_
    refine XS.go (s_iconst (v := 4) rfl rfl) ?_
    replace hf := xb_some hf
    obtain ⟨r8, e9, hf⟩ := hf
    refine r_callv rfl xvX12_number xm12_467 (kf_m_number (d := d) L0 e9) (LY.lt L0 (by decide)) (LY.k1262 L0) (by decide) rfl rfl (dl0 (by decide)) (by decide) (Nat.le_of_ble_eq_true rfl) ?_
    rintro _ _ ⟨⟨rfl, rfl⟩, L10⟩
    refine XS.go (s_l2i rfl) ?_
    refine XS.go (s_iadd rfl) ?_
    exact XR.forget (L2 := [none, none, some (.int x2), none, none, none]) ⟨rfl, trivial⟩ (kb_m_into_156 L10 hf)
  · replace hf := xi_neg hf qc7
    refine XS.go (s_iload rfl rfl) ?_
    refine XS.go (s_goto (tgt := 156) rfl rfl) ?_
    exact XR.forget (L2 := [none, none, some (.int x2), none, none, none]) ⟨rfl, trivial⟩ (kb_m_into_156 L0 hf)
def b_m_into_119 (x2 : Int32) (x3 : Int32) (x4 : Int32) (y0 : Int32) (h : XH) : Option (Int32 × XH) := (if ¬ x2 = 1 then (b_m_into_133 x2 x4 y0 x2 x3 h) else (b_m_into_133 x2 x4 y0 x2 0 h))
set_option maxRecDepth 20000 in
theorem kb_m_into_119 {l : Launch} {G : XG} {d : Nat} {x2 : Int32} {x3 : Int32} {x4 : Int32} {y0 : Int32} {h : XH} {r : Int32 × XH} (L0 : LY h) (hf : b_m_into_119 x2 x3 x4 y0 h = some r) : XR l G xEX12_into (d + 5) (119, [some (.ref 1262), none, some (.int x2), some (.int x3), some (.int x4), none], [(.int y0)], h) (fun C => ∃ v, xRet xEX12_into C v ∧ (C.2.2.2 = r.2 ∧ v = some (.int r.1)) ∧ LY r.2) := by
  unfold b_m_into_119 at hf
  refine XS.go (XS.lcl (L3 := [some (.ref 1262), none, some (.int x2), some (.int x3), some (.int x4), some (.int y0)]) (s_istore rfl (Nat.le_of_ble_eq_true rfl)) rfl) ?_
  refine XS.go (s_aloadn rfl rfl rfl) ?_
  refine XS.go (s_iloadn rfl rfl rfl) ?_
  refine XS.go (s_iloadn rfl rfl rfl) ?_
  refine XS.go (s_iconst (v := 1) rfl rfl) ?_
  refine r_icmp_ne (tgt := 132) rfl rfl (fun qc11 => ?_) (fun qc11 => ?_)
  · replace hf := xi_pos hf qc11
    refine XS.go (s_iloadn rfl rfl rfl) ?_
    exact XR.forget (L2 := [some (.ref 1262), none, some (.int x2), none, some (.int x4), some (.int y0)]) ⟨rfl, ⟨rfl, ⟨rfl, ⟨rfl, trivial⟩⟩⟩⟩ (kb_m_into_133 L0 hf)
  · replace hf := xi_neg hf qc11
    refine XS.go (s_iconst (v := 0) rfl rfl) ?_
    refine XS.go (s_goto (tgt := 133) rfl rfl) ?_
    exact XR.forget (L2 := [some (.ref 1262), none, some (.int x2), none, some (.int x4), some (.int y0)]) ⟨rfl, ⟨rfl, ⟨rfl, ⟨rfl, trivial⟩⟩⟩⟩ (kb_m_into_133 L0 hf)
def b_m_into_88 (x1 : Int32) (x2 : Int32) (x3 : Int32) (x4 : Int32) (h : XH) : Option (Int32 × XH) := (if x2 = 0 then (some ((-1), h)) else (if ¬ x4 = (-1) then (if ¬ x2 = 5 then (b_m_into_119 x2 x3 x4 (-1) h) else (Option.bind (f_m_row x1 h) fun r15 => (if 0 ≤ r15.1 ∧ r15.1 < nI 256 then (b_m_into_119 x2 x3 x4 (hi r15.2 1288 (Int32.toNatClampNeg r15.1)) r15.2) else none))) else (some ((-1), h))))
set_option maxRecDepth 20000 in
theorem kb_m_into_88 {l : Launch} {G : XG} {d : Nat} {x1 : Int32} {x2 : Int32} {x3 : Int32} {x4 : Int32} {h : XH} {r : Int32 × XH} (L0 : LY h) (hf : b_m_into_88 x1 x2 x3 x4 h = some r) : XR l G xEX12_into (d + 5) (88, [some (.ref 1262), some (.int x1), some (.int x2), some (.int x3), some (.int x4), none], [], h) (fun C => ∃ v, xRet xEX12_into C v ∧ (C.2.2.2 = r.2 ∧ v = some (.int r.1)) ∧ LY r.2) := by
  unfold b_m_into_88 at hf
  refine XS.go (s_iloadn rfl rfl rfl) ?_
  refine r_if_eq (tgt := 98) rfl rfl (fun qc12 => ?_) (fun qc12 => ?_)
  · replace hf := xi_pos hf qc12
    refine XS.go (s_iconst (v := (-1)) rfl rfl) ?_
    cases hf
    exact XR.reti rfl rfl (fun hret => ⟨_, hret, ⟨rfl, rfl⟩, L0⟩)
  · replace hf := xi_neg hf qc12
    refine XS.go (s_iload rfl rfl) ?_
    refine XS.go (s_iconst (v := (-1)) rfl rfl) ?_
    refine r_icmp_ne (tgt := 100) rfl rfl (fun qc13 => ?_) (fun qc13 => ?_)
    · replace hf := xi_pos hf qc13
      refine XS.go (s_iloadn rfl rfl rfl) ?_
      refine XS.go (s_iconst (v := 5) rfl rfl) ?_
      refine r_icmp_ne (tgt := 118) rfl rfl (fun qc14 => ?_) (fun qc14 => ?_)
      · replace hf := xi_pos hf qc14
        refine XS.go (s_iconst (v := (-1)) rfl rfl) ?_
        exact XR.forget (L2 := [some (.ref 1262), none, some (.int x2), some (.int x3), some (.int x4), none]) ⟨rfl, ⟨rfl, ⟨rfl, ⟨rfl, trivial⟩⟩⟩⟩ (kb_m_into_119 L0 hf)
      · replace hf := xi_neg hf qc14
        refine XS.go (s_aloadn rfl rfl rfl) ?_
        refine XS.go (s_getr rfl xf12_85 (LY.lt L0 (by decide)) (LY.k1262 L0) (by decide) rfl (LY.r1262_37 L0)) ?_
        refine XS.go (s_aloadn rfl rfl rfl) ?_
        refine XS.go (s_iloadn rfl rfl rfl) ?_
        replace hf := xb_some hf
        obtain ⟨r15, e16, hf⟩ := hf
        refine r_callv rfl xvX12_row xm12_532 (kf_m_row (d := d) L0 e16) (LY.lt L0 (by decide)) (LY.k1262 L0) (by decide) rfl rfl (dl (by decide)) (by decide) (Nat.le_of_ble_eq_true rfl) ?_
        rintro _ _ ⟨⟨rfl, rfl⟩, L17⟩
        replace hf := xi_none hf
        obtain ⟨qk18, hf⟩ := hf
        refine XS.go (s_ialde rfl (LY.lt L17 (by decide)) (LY.k1288 L17) (inLit (LY.n1288 L17) qk18.1 qk18.2 (by decide)) rfl) ?_
        refine XS.go (s_goto (tgt := 119) rfl rfl) ?_
        exact XR.forget (L2 := [some (.ref 1262), none, some (.int x2), some (.int x3), some (.int x4), none]) ⟨rfl, ⟨rfl, ⟨rfl, ⟨rfl, trivial⟩⟩⟩⟩ (kb_m_into_119 L17 hf)
    · replace hf := xi_neg hf qc13
      refine XS.go (s_iconst (v := (-1)) rfl rfl) ?_
      cases hf
      exact XR.reti rfl rfl (fun hret => ⟨_, hret, ⟨rfl, rfl⟩, L0⟩)
def f_m_into (a0 : Int32) (h : XH) : Option (Int32 × XH) := (Option.bind (f_m_isPart a0 (hsi h 1262 0 0)) fun r19 => (if ¬ r19.1 = 0 then (Option.bind (f_m_partSort a0 r19.2) fun r23 => (Option.bind (f_m_partOf a0 r23.2) fun r26 => (Option.bind (f_m_partAt a0 r26.2) fun r29 => (if ¬ r23.1 = 4 then (b_m_into_88 a0 r23.1 r26.1 r29.1 r29.2) else (Option.bind (f_m_which a0 r29.2) fun r33 => (if ¬ r33.1 = 0 then (Option.bind (f_m_row a0 r33.2) fun r37 => (if 0 ≤ r37.1 ∧ r37.1 < nI 256 then (Option.bind (f_m_stored ((hi r37.2 1289 (Int32.toNatClampNeg r37.1)) + 1) r37.2) fun r41 => (if 0 ≤ (((8 * r26.1) + r33.1) - 1) ∧ (((8 * r26.1) + r33.1) - 1) < nI 64 then (b_m_into_88 a0 3 (hi r41.2 1294 (Int32.toNatClampNeg (((8 * r26.1) + r33.1) - 1))) r41.1 r41.2) else none)) else none)) else (some ((-1), r33.2)))))))) else (some ((-1), r19.2))))
set_option maxRecDepth 20000 in
theorem kf_m_into {l : Launch} {G : XG} {d : Nat} {a0 : Int32} {h : XH} {r : Int32 × XH} (L0 : LY h) (hf : f_m_into a0 h = some r) : XC l G xEX12_into (d + 5) [.ref 1262, .int a0] h (fun v h2 => (h2 = r.2 ∧ v = some (.int r.1)) ∧ LY r.2) := by
  refine XC.virt xvX12_into (Nat.le_of_ble_eq_true rfl) ?_
  unfold f_m_into at hf
  refine XR.norm (L3 := [some (.ref 1262), some (.int a0), none, none, none, none]) rfl ?_
  refine XS.go (s_aloadn rfl rfl rfl) ?_
  refine XS.go (s_iconst (v := 0) rfl rfl) ?_
  refine XS.go (s_puti rfl xf12_175 (LY.lt L0 (by decide)) (LY.k1262 L0) (by decide) rfl (Or.inl rfl)) ?_
  refine XS.go (s_aloadn rfl rfl rfl) ?_
  refine XS.go (s_iloadn rfl rfl rfl) ?_
  replace hf := xb_some hf
  obtain ⟨r19, e20, hf⟩ := hf
  refine r_callv rfl xvX12_isPart xm12_540 (kf_m_isPart (d := d) (by simp only [LY_si, LY_sj]; exact L0) e20) (LY.lt (by simp only [LY_si, LY_sj]; exact L0) (by decide)) (LY.k1262 (by simp only [LY_si, LY_sj]; exact L0)) (by decide) rfl rfl (dl (by decide)) (by decide) (Nat.le_of_ble_eq_true rfl) ?_
  rintro _ _ ⟨⟨rfl, rfl⟩, L21⟩
  refine r_if_ne (tgt := 15) rfl rfl (fun qc22 => ?_) (fun qc22 => ?_)
  · replace hf := xi_pos hf qc22
    refine XS.go (s_aloadn rfl rfl rfl) ?_
    refine XS.go (s_iloadn rfl rfl rfl) ?_
    replace hf := xb_some hf
    obtain ⟨r23, e24, hf⟩ := hf
    refine r_callv rfl xvX12_partSort xm12_543 (kf_m_partSort (d := d) L21 e24) (LY.lt L21 (by decide)) (LY.k1262 L21) (by decide) rfl rfl (dl (by decide)) (by decide) (Nat.le_of_ble_eq_true rfl) ?_
    rintro _ _ ⟨⟨rfl, rfl⟩, L25⟩
    refine XS.go (XS.lcl (L3 := [some (.ref 1262), some (.int a0), some (.int r23.1), none, none, none]) (s_istoren rfl rfl (Nat.le_of_ble_eq_true rfl)) rfl) ?_
    refine XS.go (s_aloadn rfl rfl rfl) ?_
    refine XS.go (s_iloadn rfl rfl rfl) ?_
    replace hf := xb_some hf
    obtain ⟨r26, e27, hf⟩ := hf
    refine r_callv rfl xvX12_partOf xm12_549 (kf_m_partOf (d := d) L25 e27) (LY.lt L25 (by decide)) (LY.k1262 L25) (by decide) rfl rfl (dl (by decide)) (by decide) (Nat.le_of_ble_eq_true rfl) ?_
    rintro _ _ ⟨⟨rfl, rfl⟩, L28⟩
    refine XS.go (XS.lcl (L3 := [some (.ref 1262), some (.int a0), some (.int r23.1), some (.int r26.1), none, none]) (s_istoren rfl rfl (Nat.le_of_ble_eq_true rfl)) rfl) ?_
    refine XS.go (s_aloadn rfl rfl rfl) ?_
    refine XS.go (s_iloadn rfl rfl rfl) ?_
    replace hf := xb_some hf
    obtain ⟨r29, e30, hf⟩ := hf
    refine r_callv rfl xvX12_partAt xm12_537 (kf_m_partAt (d := d) L28 e30) (LY.lt L28 (by decide)) (LY.k1262 L28) (by decide) rfl rfl (dl (by decide)) (by decide) (Nat.le_of_ble_eq_true rfl) ?_
    rintro _ _ ⟨⟨rfl, rfl⟩, L31⟩
    refine XS.go (XS.lcl (L3 := [some (.ref 1262), some (.int a0), some (.int r23.1), some (.int r26.1), some (.int r29.1), none]) (s_istore rfl (Nat.le_of_ble_eq_true rfl)) rfl) ?_
    refine XS.go (s_iloadn rfl rfl rfl) ?_
    refine XS.go (s_iconst (v := 4) rfl rfl) ?_
    refine r_icmp_ne (tgt := 88) rfl rfl (fun qc32 => ?_) (fun qc32 => ?_)
    · replace hf := xi_pos hf qc32
      exact XR.forget (L2 := [some (.ref 1262), some (.int a0), some (.int r23.1), some (.int r26.1), some (.int r29.1), none]) ⟨rfl, ⟨rfl, ⟨rfl, ⟨rfl, ⟨rfl, trivial⟩⟩⟩⟩⟩ (kb_m_into_88 L31 hf)
    · replace hf := xi_neg hf qc32
      refine XS.go (s_aloadn rfl rfl rfl) ?_
      refine XS.go (s_iloadn rfl rfl rfl) ?_
      replace hf := xb_some hf
      obtain ⟨r33, e34, hf⟩ := hf
      refine r_callv rfl xvX12_which xm12_546 (kf_m_which (d := d) L31 e34) (LY.lt L31 (by decide)) (LY.k1262 L31) (by decide) rfl rfl (dl (by decide)) (by decide) (Nat.le_of_ble_eq_true rfl) ?_
      rintro _ _ ⟨⟨rfl, rfl⟩, L35⟩
      refine XS.go (XS.lcl (L3 := [some (.ref 1262), some (.int a0), some (.int r23.1), some (.int r26.1), some (.int r29.1), some (.int r33.1)]) (s_istore rfl (Nat.le_of_ble_eq_true rfl)) rfl) ?_
      refine XS.go (s_iload rfl rfl) ?_
      refine r_if_ne (tgt := 53) rfl rfl (fun qc36 => ?_) (fun qc36 => ?_)
      · replace hf := xi_pos hf qc36
        refine XS.go (s_aloadn rfl rfl rfl) ?_
        refine XS.go (s_aloadn rfl rfl rfl) ?_
        refine XS.go (s_getr rfl xf12_88 (LY.lt L35 (by decide)) (LY.k1262 L35) (by decide) rfl (LY.r1262_38 L35)) ?_
        refine XS.go (s_aloadn rfl rfl rfl) ?_
        refine XS.go (s_iloadn rfl rfl rfl) ?_
        replace hf := xb_some hf
        obtain ⟨r37, e38, hf⟩ := hf
        refine r_callv rfl xvX12_row xm12_532 (kf_m_row (d := d) L35 e38) (LY.lt L35 (by decide)) (LY.k1262 L35) (by decide) rfl rfl (dl (by decide)) (by decide) (Nat.le_of_ble_eq_true rfl) ?_
        rintro _ _ ⟨⟨rfl, rfl⟩, L39⟩
        replace hf := xi_none hf
        obtain ⟨qk40, hf⟩ := hf
        refine XS.go (s_ialde rfl (LY.lt L39 (by decide)) (LY.k1289 L39) (inLit (LY.n1289 L39) qk40.1 qk40.2 (by decide)) rfl) ?_
        refine XS.go (s_iconst (v := 1) rfl rfl) ?_
        refine XS.go (s_iadd rfl) ?_
        replace hf := xb_some hf
        obtain ⟨r41, e42, hf⟩ := hf
        refine r_callv rfl xvX12_stored xm12_534 (kf_m_stored (d := d) L39 e42) (LY.lt L39 (by decide)) (LY.k1262 L39) (by decide) rfl rfl (dl (by decide)) (by decide) (Nat.le_of_ble_eq_true rfl) ?_
        rintro _ _ ⟨⟨rfl, rfl⟩, L43⟩
        refine XS.go (XS.lcl (L3 := [some (.ref 1262), some (.int a0), some (.int r23.1), some (.int r26.1), some (.int r41.1), some (.int r33.1)]) (s_istore rfl (Nat.le_of_ble_eq_true rfl)) rfl) ?_
        refine XS.go (s_aloadn rfl rfl rfl) ?_
        refine XS.go (s_getr rfl xf12_104 (LY.lt L43 (by decide)) (LY.k1262 L43) (by decide) rfl (LY.r1262_44 L43)) ?_
        refine XS.go (s_bipush (v := 8) rfl rfl) ?_
        refine XS.go (s_iloadn rfl rfl rfl) ?_
        refine XS.go (s_imul rfl) ?_
        refine XS.go (s_iload rfl rfl) ?_
        refine XS.go (s_iadd rfl) ?_
        refine XS.go (s_iconst (v := 1) rfl rfl) ?_
        refine XS.go (s_isub rfl) ?_
        replace hf := xi_none hf
        obtain ⟨qk44, hf⟩ := hf
        refine XS.go (s_ialde rfl (LY.lt L43 (by decide)) (LY.k1294 L43) (inLit (LY.n1294 L43) qk44.1 qk44.2 (by decide)) rfl) ?_
        refine XS.go (XS.lcl (L3 := [some (.ref 1262), some (.int a0), some (.int r23.1), some (.int (hi r41.2 1294 (Int32.toNatClampNeg (((8 * r26.1) + r33.1) - 1)))), some (.int r41.1), some (.int r33.1)]) (s_istoren rfl rfl (Nat.le_of_ble_eq_true rfl)) rfl) ?_
        refine XS.go (s_iconst (v := 3) rfl rfl) ?_
        refine XS.go (XS.lcl (L3 := [some (.ref 1262), some (.int a0), some (.int 3), some (.int (hi r41.2 1294 (Int32.toNatClampNeg (((8 * r26.1) + r33.1) - 1)))), some (.int r41.1), some (.int r33.1)]) (s_istoren rfl rfl (Nat.le_of_ble_eq_true rfl)) rfl) ?_
        exact XR.forget (L2 := [some (.ref 1262), some (.int a0), some (.int 3), some (.int (hi r41.2 1294 (Int32.toNatClampNeg (((8 * r26.1) + r33.1) - 1)))), some (.int r41.1), none]) ⟨rfl, ⟨rfl, ⟨rfl, ⟨rfl, ⟨rfl, trivial⟩⟩⟩⟩⟩ (kb_m_into_88 L43 hf)
      · replace hf := xi_neg hf qc36
        refine XS.go (s_iconst (v := (-1)) rfl rfl) ?_
        cases hf
        exact XR.reti rfl rfl (fun hret => ⟨_, hret, ⟨rfl, rfl⟩, L35⟩)
  · replace hf := xi_neg hf qc22
    refine XS.go (s_iconst (v := (-1)) rfl rfl) ?_
    cases hf
    exact XR.reti rfl rfl (fun hret => ⟨_, hret, ⟨rfl, rfl⟩, L21⟩)
def f_m_up (h : XH) : Option (Int32 × XH) := (if (hi h 1262 81) = 0 then (some ((-1), (hsi h 1262 0 0))) else (if ¬ (hi h 1262 87) = 1 then (Option.bind (f_m_sort (hsi (hsi h 1262 0 0) 1262 87 ((hi h 1262 87) - 1))) fun r3 => (Option.bind (f_m_told r3.1 r3.2) fun r6 => (some (r6.1, r6.2)))) else (some ((-1), (hsi h 1262 0 0)))))
set_option maxRecDepth 20000 in
theorem kf_m_up {l : Launch} {G : XG} {d : Nat} {h : XH} {r : Int32 × XH} (L0 : LY h) (hf : f_m_up h = some r) : XC l G xEX12_up (d + 1) [.ref 1262] h (fun v h2 => (h2 = r.2 ∧ v = some (.int r.1)) ∧ LY r.2) := by
  refine XC.virt xvX12_up (Nat.le_of_ble_eq_true rfl) ?_
  unfold f_m_up at hf
  refine XR.norm (L3 := [some (.ref 1262)]) rfl ?_
  refine XS.go (s_aloadn rfl rfl rfl) ?_
  refine XS.go (s_iconst (v := 0) rfl rfl) ?_
  refine XS.go (s_puti rfl xf12_175 (LY.lt L0 (by decide)) (LY.k1262 L0) (by decide) rfl (Or.inl rfl)) ?_
  refine XS.go (s_aloadn rfl rfl rfl) ?_
  refine XS.go (s_getze rfl xf12_360 (LY.lt (by simp only [LY_si, LY_sj]; exact L0) (by decide)) (LY.k1262 (by simp only [LY_si, LY_sj]; exact L0)) (by decide) rfl (hi_hsi_nk (by decide))) ?_
  refine r_if_eq (tgt := 20) rfl rfl (fun qc1 => ?_) (fun qc1 => ?_)
  · replace hf := xi_pos hf qc1
    refine XS.go (s_iconst (v := (-1)) rfl rfl) ?_
    cases hf
    exact XR.reti rfl rfl (fun hret => ⟨_, hret, ⟨rfl, rfl⟩, (by simp only [LY_si, LY_sj]; exact L0)⟩)
  · replace hf := xi_neg hf qc1
    refine XS.go (s_aloadn rfl rfl rfl) ?_
    refine XS.go (s_getie rfl xf12_500 (LY.lt (by simp only [LY_si, LY_sj]; exact L0) (by decide)) (LY.k1262 (by simp only [LY_si, LY_sj]; exact L0)) (by decide) rfl (hi_hsi_nk (by decide))) ?_
    refine XS.go (s_iconst (v := 1) rfl rfl) ?_
    refine r_icmp_ne (tgt := 22) rfl rfl (fun qc2 => ?_) (fun qc2 => ?_)
    · replace hf := xi_pos hf qc2
      refine XS.go (s_aloadn rfl rfl rfl) ?_
      refine XS.go (s_dup rfl rfl) ?_
      refine XS.go (s_getie rfl xf12_500 (LY.lt (by simp only [LY_si, LY_sj]; exact L0) (by decide)) (LY.k1262 (by simp only [LY_si, LY_sj]; exact L0)) (by decide) rfl (hi_hsi_nk (by decide))) ?_
      refine XS.go (s_iconst (v := 1) rfl rfl) ?_
      refine XS.go (s_isub rfl) ?_
      refine XS.go (s_puti rfl xf12_500 (LY.lt (by simp only [LY_si, LY_sj]; exact L0) (by decide)) (LY.k1262 (by simp only [LY_si, LY_sj]; exact L0)) (by decide) rfl (Or.inl rfl)) ?_
      refine XS.go (s_aloadn rfl rfl rfl) ?_
      replace hf := xb_some hf
      obtain ⟨r3, e4, hf⟩ := hf
      refine r_callv rfl xvX12_sort xm12_515 (kf_m_sort (d := d) (by simp only [LY_si, LY_sj]; exact L0) e4) (LY.lt (by simp only [LY_si, LY_sj]; exact L0) (by decide)) (LY.k1262 (by simp only [LY_si, LY_sj]; exact L0)) (by decide) rfl rfl (dl0 (by decide)) (by decide) (Nat.le_of_ble_eq_true rfl) ?_
      rintro _ _ ⟨⟨rfl, rfl⟩, L5⟩
      replace hf := xb_some hf
      obtain ⟨r6, e7, hf⟩ := hf
      refine r_calls rfl xsX12_told xm12_524 (kf_m_told (d := d) L5 e7) rfl rfl (dl0 (by decide)) (by decide) (Nat.le_of_ble_eq_true rfl) ?_
      rintro _ _ ⟨⟨rfl, rfl⟩, L8⟩
      cases hf
      exact XR.reti rfl rfl (fun hret => ⟨_, hret, ⟨rfl, rfl⟩, L8⟩)
    · replace hf := xi_neg hf qc2
      refine XS.go (s_iconst (v := (-1)) rfl rfl) ?_
      cases hf
      exact XR.reti rfl rfl (fun hret => ⟨_, hret, ⟨rfl, rfl⟩, (by simp only [LY_si, LY_sj]; exact L0)⟩)
def s_m_write_119 (K119 : Int32 → XH → Option (Int32 × XH)) (x6 : Int32) (h : XH) : Option (Int32 × XH) := (if (hi h 1262 75) ≤ x6 then (Option.bind (f_m_atRoot h) fun r2 => (some (1, r2.2))) else (if 0 ≤ x6 ∧ x6 < nI 4000 then (K119 (x6 + 1) (hsi h 1311 (Int32.toNatClampNeg x6) (hi h 1310 (Int32.toNatClampNeg x6)))) else none))
set_option maxRecDepth 20000 in
theorem ks_m_write_119 {l : Launch} {G : XG} {d : Nat} {K119 : Int32 → XH → Option (Int32 × XH)} {x6 : Int32} {h : XH} {r : Int32 × XH} (hK119 : ∀ (x6 : Int32) (h : XH), LY h → K119 x6 h = some r → XR l G xEX12_write (d + 202) (119, [some (.ref 1262), none, none, none, none, none, some (.int x6)], [], h) (fun C => ∃ v, xRet xEX12_write C v ∧ (C.2.2.2 = r.2 ∧ v = some (.int r.1)) ∧ LY r.2)) (L0 : LY h) (hf : s_m_write_119 K119 x6 h = some r) : XR l G xEX12_write (d + 202) (119, [some (.ref 1262), none, none, none, none, none, some (.int x6)], [], h) (fun C => ∃ v, xRet xEX12_write C v ∧ (C.2.2.2 = r.2 ∧ v = some (.int r.1)) ∧ LY r.2) := by
  unfold s_m_write_119 at hf
  refine XS.go (s_iload rfl rfl) ?_
  refine XS.go (s_aloadn rfl rfl rfl) ?_
  refine XS.go (s_getie rfl xf12_459 (LY.lt L0 (by decide)) (LY.k1262 L0) (by decide) rfl rfl) ?_
  refine r_icmp_ge (tgt := 148) rfl rfl (fun qc1 => ?_) (fun qc1 => ?_)
  · replace hf := xi_pos hf qc1
    refine XS.go (s_aloadn rfl rfl rfl) ?_
    replace hf := xb_some hf
    obtain ⟨r2, e3, hf⟩ := hf
    refine r_callv rfl xvX12_atRoot xm12_512 (kf_m_atRoot (d := d) L0 e3) (LY.lt L0 (by decide)) (LY.k1262 L0) (by decide) rfl rfl (dl (by decide)) (by decide) (Nat.le_of_ble_eq_true rfl) ?_
    rintro _ _ ⟨⟨rfl, rfl⟩, L4⟩
    refine XS.go (s_iconst (v := 1) rfl rfl) ?_
    cases hf
    exact XR.retz rfl rfl (by decide) (fun hret => ⟨_, hret, ⟨rfl, rfl⟩, L4⟩)
  · replace hf := xi_neg hf qc1
    refine XS.go (s_aloadn rfl rfl rfl) ?_
    refine XS.go (s_getr rfl xf12_160 (LY.lt L0 (by decide)) (LY.k1262 L0) (by decide) rfl (LY.r1262_79 L0)) ?_
    refine XS.go (s_iload rfl rfl) ?_
    refine XS.go (s_aloadn rfl rfl rfl) ?_
    refine XS.go (s_getr rfl xf12_157 (LY.lt L0 (by decide)) (LY.k1262 L0) (by decide) rfl (LY.r1262_74 L0)) ?_
    refine XS.go (s_iload rfl rfl) ?_
    replace hf := xi_none hf
    obtain ⟨qk5, hf⟩ := hf
    refine XS.go (s_ialde rfl (LY.lt L0 (by decide)) (LY.k1310 L0) (inLit (LY.n1310 L0) qk5.1 qk5.2 (by decide)) rfl) ?_
    refine XS.go (s_iast rfl (LY.lt L0 (by decide)) (LY.k1311 L0) (inLit (LY.n1311 L0) qk5.1 qk5.2 (by decide))) ?_
    refine XS.go (XS.lcl (L3 := [some (.ref 1262), none, none, none, none, none, some (.int (x6 + 1))]) (s_inc rfl rfl (Nat.le_of_ble_eq_true rfl)) rfl) ?_
    refine XS.go (s_goto (tgt := 119) rfl rfl) ?_
    exact XR.forget (L2 := [some (.ref 1262), none, none, none, none, none, some (.int (x6 + 1))]) ⟨rfl, ⟨rfl, trivial⟩⟩ (hK119 (x6 + 1) _ (by simp only [LY_si, LY_sj]; exact L0) hf)
def b_m_write_119 : Nat → Int32 → XH → Option (Int32 × XH)
  | 0, _, _ => none
  | n + 1, x6, h => s_m_write_119 (b_m_write_119 n) x6 h
theorem kb_m_write_119 {l : Launch} {G : XG} {d : Nat} {n : Nat} {x6 : Int32} {h : XH} {r : Int32 × XH} (L0 : LY h) (hf : b_m_write_119 n x6 h = some r) : XR l G xEX12_write (d + 202) (119, [some (.ref 1262), none, none, none, none, none, some (.int x6)], [], h) (fun C => ∃ v, xRet xEX12_write C v ∧ (C.2.2.2 = r.2 ∧ v = some (.int r.1)) ∧ LY r.2) := by
  induction n generalizing x6 h with
  | zero => cases hf
  | succ n ih => exact ks_m_write_119 (fun x6 h L0 hf => ih (h := h) (x6 := x6) L0 hf) L0 hf
def s_m_write_65 (K65 : Int64 → Int32 → Int32 → Int32 → XH → Option (Int32 × XH)) (x2 : Int64) (x4 : Int32) (x5 : Int32) (x6 : Int32) (h : XH) : Option (Int32 × XH) := (Option.bind (f_m_bytesOf x4 h) fun r6 => (if r6.1 ≤ x6 then (Option.bind (f_m_judge r6.2) fun r10 => (if ¬ r10.1 = 0 then (b_m_write_119 100000 0 r10.2) else (Option.bind (f_m_back r10.2) fun r14 => (some (0, r14.2))))) else (if 0 ≤ (x5 + x6) ∧ (x5 + x6) < nI 4000 then (K65 x2 x4 x5 (x6 + 1) (hsi r6.2 1310 (Int32.toNatClampNeg (x5 + x6)) (Int64.toInt32 ((x2 >>> ((Int32.toInt64 (8 * x6)) &&& 63)) &&& (255 : Int64))))) else none)))
set_option maxRecDepth 20000 in
theorem ks_m_write_65 {l : Launch} {G : XG} {d : Nat} {K65 : Int64 → Int32 → Int32 → Int32 → XH → Option (Int32 × XH)} {x2 : Int64} {x4 : Int32} {x5 : Int32} {x6 : Int32} {h : XH} {r : Int32 × XH} (hK65 : ∀ (x2 : Int64) (x4 : Int32) (x5 : Int32) (x6 : Int32) (h : XH), LY h → K65 x2 x4 x5 x6 h = some r → XR l G xEX12_write (d + 202) (65, [some (.ref 1262), none, some (.long x2), none, some (.int x4), some (.int x5), some (.int x6)], [], h) (fun C => ∃ v, xRet xEX12_write C v ∧ (C.2.2.2 = r.2 ∧ v = some (.int r.1)) ∧ LY r.2)) (L0 : LY h) (hf : s_m_write_65 K65 x2 x4 x5 x6 h = some r) : XR l G xEX12_write (d + 202) (65, [some (.ref 1262), none, some (.long x2), none, some (.int x4), some (.int x5), some (.int x6)], [], h) (fun C => ∃ v, xRet xEX12_write C v ∧ (C.2.2.2 = r.2 ∧ v = some (.int r.1)) ∧ LY r.2) := by
  unfold s_m_write_65 at hf
  refine XS.go (s_iload rfl rfl) ?_
  refine XS.go (s_iload rfl rfl) ?_
  replace hf := xb_some hf
  obtain ⟨r6, e7, hf⟩ := hf
  refine r_calls rfl xsX12_bytesOf xm12_315 (kf_m_bytesOf (d := d) L0 e7) rfl rfl (dl0 (by decide)) (by decide) (Nat.le_of_ble_eq_true rfl) ?_
  rintro _ _ ⟨⟨rfl, rfl⟩, L8⟩
  refine r_icmp_ge (tgt := 103) rfl rfl (fun qc9 => ?_) (fun qc9 => ?_)
  · replace hf := xi_pos hf qc9
    refine XS.go (s_aloadn rfl rfl rfl) ?_
    replace hf := xb_some hf
    obtain ⟨r10, e11, hf⟩ := hf
    refine r_callv rfl xvX12_judge xm12_506 (kf_m_judge (d := d) L8 e11) (LY.lt L8 (by decide)) (LY.k1262 L8) (by decide) rfl rfl (dl (by decide)) (by decide) (Nat.le_of_ble_eq_true rfl) ?_
    rintro _ _ ⟨⟨rfl, rfl⟩, L12⟩
    refine r_if_ne (tgt := 116) rfl rfl (fun qc13 => ?_) (fun qc13 => ?_)
    · replace hf := xi_pos hf qc13
      refine XS.go (s_iconst (v := 0) rfl rfl) ?_
      refine XS.go (XS.lcl (L3 := [some (.ref 1262), none, some (.long x2), none, some (.int x4), some (.int x5), some (.int 0)]) (s_istore rfl (Nat.le_of_ble_eq_true rfl)) rfl) ?_
      exact XR.forget (L2 := [some (.ref 1262), none, none, none, none, none, some (.int 0)]) ⟨rfl, ⟨rfl, trivial⟩⟩ (kb_m_write_119 L12 hf)
    · replace hf := xi_neg hf qc13
      refine XS.go (s_aloadn rfl rfl rfl) ?_
      replace hf := xb_some hf
      obtain ⟨r14, e15, hf⟩ := hf
      refine r_callv rfl xvX12_back xm12_509 (kf_m_back (d := d) L12 e15) (LY.lt L12 (by decide)) (LY.k1262 L12) (by decide) rfl rfl (dl0 (by decide)) (by decide) (Nat.le_of_ble_eq_true rfl) ?_
      rintro _ _ ⟨⟨rfl, rfl⟩, L16⟩
      refine XS.go (s_iconst (v := 0) rfl rfl) ?_
      cases hf
      exact XR.retz rfl rfl (by decide) (fun hret => ⟨_, hret, ⟨rfl, rfl⟩, L16⟩)
  · replace hf := xi_neg hf qc9
    refine XS.go (s_aloadn rfl rfl rfl) ?_
    refine XS.go (s_getr rfl xf12_157 (LY.lt L8 (by decide)) (LY.k1262 L8) (by decide) rfl (LY.r1262_74 L8)) ?_
    refine XS.go (s_iload rfl rfl) ?_
    refine XS.go (s_iload rfl rfl) ?_
    refine XS.go (s_iadd rfl) ?_
    refine XS.go (s_lloadn rfl rfl rfl) ?_
    refine XS.go (s_bipush (v := 8) rfl rfl) ?_
    refine XS.go (s_iload rfl rfl) ?_
    refine XS.go (s_imul rfl) ?_
    refine XS.go (s_lshr rfl) ?_
    refine XS.go (s_ldc2 rfl (lg_9 83 rfl rfl)) ?_
    refine XS.go (s_land rfl) ?_
    refine XS.go (s_l2i rfl) ?_
    replace hf := xi_none hf
    obtain ⟨qk17, hf⟩ := hf
    refine XS.go (s_iast rfl (LY.lt L8 (by decide)) (LY.k1310 L8) (inLit (LY.n1310 L8) qk17.1 qk17.2 (by decide))) ?_
    refine XS.go (XS.lcl (L3 := [some (.ref 1262), none, some (.long x2), none, some (.int x4), some (.int x5), some (.int (x6 + 1))]) (s_inc rfl rfl (Nat.le_of_ble_eq_true rfl)) rfl) ?_
    refine XS.go (s_goto (tgt := 65) rfl rfl) ?_
    exact XR.forget (L2 := [some (.ref 1262), none, some (.long x2), none, some (.int x4), some (.int x5), some (.int (x6 + 1))]) ⟨rfl, ⟨rfl, ⟨rfl, ⟨rfl, ⟨rfl, trivial⟩⟩⟩⟩⟩ (hK65 x2 x4 x5 (x6 + 1) _ (by simp only [LY_si, LY_sj]; exact L8) hf)
def b_m_write_65 : Nat → Int64 → Int32 → Int32 → Int32 → XH → Option (Int32 × XH)
  | 0, _, _, _, _, _ => none
  | n + 1, x2, x4, x5, x6, h => s_m_write_65 (b_m_write_65 n) x2 x4 x5 x6 h
theorem kb_m_write_65 {l : Launch} {G : XG} {d : Nat} {n : Nat} {x2 : Int64} {x4 : Int32} {x5 : Int32} {x6 : Int32} {h : XH} {r : Int32 × XH} (L0 : LY h) (hf : b_m_write_65 n x2 x4 x5 x6 h = some r) : XR l G xEX12_write (d + 202) (65, [some (.ref 1262), none, some (.long x2), none, some (.int x4), some (.int x5), some (.int x6)], [], h) (fun C => ∃ v, xRet xEX12_write C v ∧ (C.2.2.2 = r.2 ∧ v = some (.int r.1)) ∧ LY r.2) := by
  induction n generalizing x2 x4 x5 x6 h with
  | zero => cases hf
  | succ n ih => exact ks_m_write_65 (fun x2 x4 x5 x6 h L0 hf => ih (h := h) (x2 := x2) (x4 := x4) (x5 := x5) (x6 := x6) L0 hf) L0 hf
def f_m_write (a0 : Int32) (a1 : Int64) (h : XH) : Option (Int32 × XH) := (Option.bind (f_m_isPart a0 (hsi h 1262 0 0)) fun r18 => (if r18.1 = 0 then (some (0, r18.2)) else (Option.bind (f_m_sort r18.2) fun r22 => (if r22.1 = 1 then (some (0, r22.2)) else (Option.bind (f_m_partSort a0 r22.2) fun r26 => (if r26.1 = 0 then (Option.bind (f_m_partOf a0 r26.2) fun r30 => (Option.bind (f_m_partAt a0 r30.2) fun r33 => (if r33.1 = (-1) then (some (0, r33.2)) else (Option.bind (f_m_isValue r30.1 a1 r33.2) fun r37 => (if ¬ r37.1 = 0 then (b_m_write_65 100000 a1 r30.1 r33.1 0 r37.2) else (some (0, r37.2))))))) else (some (0, r26.2))))))))
set_option maxRecDepth 20000 in
theorem kf_m_write {l : Launch} {G : XG} {d : Nat} {a0 : Int32} {a1 : Int64} {h : XH} {r : Int32 × XH} (L0 : LY h) (hf : f_m_write a0 a1 h = some r) : XC l G xEX12_write (d + 202) [.ref 1262, .int a0, .long a1] h (fun v h2 => (h2 = r.2 ∧ v = some (.int r.1)) ∧ LY r.2) := by
  refine XC.virt xvX12_write (Nat.le_of_ble_eq_true rfl) ?_
  unfold f_m_write at hf
  refine XR.norm (L3 := [some (.ref 1262), some (.int a0), some (.long a1), none, none, none, none]) rfl ?_
  refine XS.go (s_aloadn rfl rfl rfl) ?_
  refine XS.go (s_iconst (v := 0) rfl rfl) ?_
  refine XS.go (s_puti rfl xf12_175 (LY.lt L0 (by decide)) (LY.k1262 L0) (by decide) rfl (Or.inl rfl)) ?_
  refine XS.go (s_aloadn rfl rfl rfl) ?_
  refine XS.go (s_iloadn rfl rfl rfl) ?_
  replace hf := xb_some hf
  obtain ⟨r18, e19, hf⟩ := hf
  refine r_callv rfl xvX12_isPart xm12_540 (kf_m_isPart (d := d) (by simp only [LY_si, LY_sj]; exact L0) e19) (LY.lt (by simp only [LY_si, LY_sj]; exact L0) (by decide)) (LY.k1262 (by simp only [LY_si, LY_sj]; exact L0)) (by decide) rfl rfl (dl (by decide)) (by decide) (Nat.le_of_ble_eq_true rfl) ?_
  rintro _ _ ⟨⟨rfl, rfl⟩, L20⟩
  refine r_if_eq (tgt := 29) rfl rfl (fun qc21 => ?_) (fun qc21 => ?_)
  · replace hf := xi_pos hf qc21
    refine XS.go (s_iconst (v := 0) rfl rfl) ?_
    cases hf
    exact XR.retz rfl rfl (by decide) (fun hret => ⟨_, hret, ⟨rfl, rfl⟩, L20⟩)
  · replace hf := xi_neg hf qc21
    refine XS.go (s_aloadn rfl rfl rfl) ?_
    replace hf := xb_some hf
    obtain ⟨r22, e23, hf⟩ := hf
    refine r_callv rfl xvX12_sort xm12_515 (kf_m_sort (d := d) L20 e23) (LY.lt L20 (by decide)) (LY.k1262 L20) (by decide) rfl rfl (dl0 (by decide)) (by decide) (Nat.le_of_ble_eq_true rfl) ?_
    rintro _ _ ⟨⟨rfl, rfl⟩, L24⟩
    refine XS.go (s_iconst (v := 1) rfl rfl) ?_
    refine r_icmp_eq (tgt := 29) rfl rfl (fun qc25 => ?_) (fun qc25 => ?_)
    · replace hf := xi_pos hf qc25
      refine XS.go (s_iconst (v := 0) rfl rfl) ?_
      cases hf
      exact XR.retz rfl rfl (by decide) (fun hret => ⟨_, hret, ⟨rfl, rfl⟩, L24⟩)
    · replace hf := xi_neg hf qc25
      refine XS.go (s_aloadn rfl rfl rfl) ?_
      refine XS.go (s_iloadn rfl rfl rfl) ?_
      replace hf := xb_some hf
      obtain ⟨r26, e27, hf⟩ := hf
      refine r_callv rfl xvX12_partSort xm12_543 (kf_m_partSort (d := d) L24 e27) (LY.lt L24 (by decide)) (LY.k1262 L24) (by decide) rfl rfl (dl (by decide)) (by decide) (Nat.le_of_ble_eq_true rfl) ?_
      rintro _ _ ⟨⟨rfl, rfl⟩, L28⟩
      refine r_if_eq (tgt := 31) rfl rfl (fun qc29 => ?_) (fun qc29 => ?_)
      · replace hf := xi_pos hf qc29
        refine XS.go (s_aloadn rfl rfl rfl) ?_
        refine XS.go (s_iloadn rfl rfl rfl) ?_
        replace hf := xb_some hf
        obtain ⟨r30, e31, hf⟩ := hf
        refine r_callv rfl xvX12_partOf xm12_549 (kf_m_partOf (d := d) L28 e31) (LY.lt L28 (by decide)) (LY.k1262 L28) (by decide) rfl rfl (dl (by decide)) (by decide) (Nat.le_of_ble_eq_true rfl) ?_
        rintro _ _ ⟨⟨rfl, rfl⟩, L32⟩
        refine XS.go (XS.lcl (L3 := [some (.ref 1262), some (.int a0), some (.long a1), none, some (.int r30.1), none, none]) (s_istore rfl (Nat.le_of_ble_eq_true rfl)) rfl) ?_
        refine XS.go (s_aloadn rfl rfl rfl) ?_
        refine XS.go (s_iloadn rfl rfl rfl) ?_
        replace hf := xb_some hf
        obtain ⟨r33, e34, hf⟩ := hf
        refine r_callv rfl xvX12_partAt xm12_537 (kf_m_partAt (d := d) L32 e34) (LY.lt L32 (by decide)) (LY.k1262 L32) (by decide) rfl rfl (dl (by decide)) (by decide) (Nat.le_of_ble_eq_true rfl) ?_
        rintro _ _ ⟨⟨rfl, rfl⟩, L35⟩
        refine XS.go (XS.lcl (L3 := [some (.ref 1262), some (.int a0), some (.long a1), none, some (.int r30.1), some (.int r33.1), none]) (s_istore rfl (Nat.le_of_ble_eq_true rfl)) rfl) ?_
        refine XS.go (s_iload rfl rfl) ?_
        refine XS.go (s_iconst (v := (-1)) rfl rfl) ?_
        refine r_icmp_eq (tgt := 60) rfl rfl (fun qc36 => ?_) (fun qc36 => ?_)
        · replace hf := xi_pos hf qc36
          refine XS.go (s_iconst (v := 0) rfl rfl) ?_
          cases hf
          exact XR.retz rfl rfl (by decide) (fun hret => ⟨_, hret, ⟨rfl, rfl⟩, L35⟩)
        · replace hf := xi_neg hf qc36
          refine XS.go (s_iload rfl rfl) ?_
          refine XS.go (s_lloadn rfl rfl rfl) ?_
          replace hf := xb_some hf
          obtain ⟨r37, e38, hf⟩ := hf
          refine r_calls rfl xsX12_isValue xm12_334 (kf_m_isValue (d := d) L35 e38) rfl rfl (dl (by decide)) (by decide) (Nat.le_of_ble_eq_true rfl) ?_
          rintro _ _ ⟨⟨rfl, rfl⟩, L39⟩
          refine r_if_ne (tgt := 62) rfl rfl (fun qc40 => ?_) (fun qc40 => ?_)
          · replace hf := xi_pos hf qc40
            refine XS.go (s_iconst (v := 0) rfl rfl) ?_
            refine XS.go (XS.lcl (L3 := [some (.ref 1262), some (.int a0), some (.long a1), none, some (.int r30.1), some (.int r33.1), some (.int 0)]) (s_istore rfl (Nat.le_of_ble_eq_true rfl)) rfl) ?_
            exact XR.forget (L2 := [some (.ref 1262), none, some (.long a1), none, some (.int r30.1), some (.int r33.1), some (.int 0)]) ⟨rfl, ⟨rfl, ⟨rfl, ⟨rfl, ⟨rfl, trivial⟩⟩⟩⟩⟩ (kb_m_write_65 L39 hf)
          · replace hf := xi_neg hf qc40
            refine XS.go (s_iconst (v := 0) rfl rfl) ?_
            cases hf
            exact XR.retz rfl rfl (by decide) (fun hret => ⟨_, hret, ⟨rfl, rfl⟩, L39⟩)
      · replace hf := xi_neg hf qc29
        refine XS.go (s_iconst (v := 0) rfl rfl) ?_
        cases hf
        exact XR.retz rfl rfl (by decide) (fun hret => ⟨_, hret, ⟨rfl, rfl⟩, L28⟩)
def f_m_byteAt (a0 : Int32) (h : XH) : Option (Int32 × XH) := (if (hi h 1262 81) = 0 then (some ((-1), (hsi h 1262 0 0))) else (if a0 < 0 then (some ((-1), (hsi h 1262 0 0))) else (if (hi h 1262 80) ≤ a0 then (some ((-1), (hsi h 1262 0 0))) else (if 0 ≤ a0 ∧ a0 < nI 4000 then (some ((hi h 1311 (Int32.toNatClampNeg a0)), (hsi h 1262 0 0))) else none))))
set_option maxRecDepth 20000 in
theorem kf_m_byteAt {l : Launch} {G : XG} {d : Nat} {a0 : Int32} {h : XH} {r : Int32 × XH} (L0 : LY h) (hf : f_m_byteAt a0 h = some r) : XC l G xEX12_byteAt d [.ref 1262, .int a0] h (fun v h2 => (h2 = r.2 ∧ v = some (.int r.1)) ∧ LY r.2) := by
  refine XC.virt xvX12_byteAt (Nat.le_of_ble_eq_true rfl) ?_
  unfold f_m_byteAt at hf
  refine XR.norm (L3 := [some (.ref 1262), some (.int a0)]) rfl ?_
  refine XS.go (s_aloadn rfl rfl rfl) ?_
  refine XS.go (s_iconst (v := 0) rfl rfl) ?_
  refine XS.go (s_puti rfl xf12_175 (LY.lt L0 (by decide)) (LY.k1262 L0) (by decide) rfl (Or.inl rfl)) ?_
  refine XS.go (s_aloadn rfl rfl rfl) ?_
  refine XS.go (s_getze rfl xf12_360 (LY.lt (by simp only [LY_si, LY_sj]; exact L0) (by decide)) (LY.k1262 (by simp only [LY_si, LY_sj]; exact L0)) (by decide) rfl (hi_hsi_nk (by decide))) ?_
  refine r_if_eq (tgt := 33) rfl rfl (fun qc1 => ?_) (fun qc1 => ?_)
  · replace hf := xi_pos hf qc1
    refine XS.go (s_iconst (v := (-1)) rfl rfl) ?_
    cases hf
    exact XR.reti rfl rfl (fun hret => ⟨_, hret, ⟨rfl, rfl⟩, (by simp only [LY_si, LY_sj]; exact L0)⟩)
  · replace hf := xi_neg hf qc1
    refine XS.go (s_iloadn rfl rfl rfl) ?_
    refine r_if_lt (tgt := 33) rfl rfl (fun qc2 => ?_) (fun qc2 => ?_)
    · replace hf := xi_pos hf qc2
      refine XS.go (s_iconst (v := (-1)) rfl rfl) ?_
      cases hf
      exact XR.reti rfl rfl (fun hret => ⟨_, hret, ⟨rfl, rfl⟩, (by simp only [LY_si, LY_sj]; exact L0)⟩)
    · replace hf := xi_neg hf qc2
      refine XS.go (s_iloadn rfl rfl rfl) ?_
      refine XS.go (s_aloadn rfl rfl rfl) ?_
      refine XS.go (s_getie rfl xf12_444 (LY.lt (by simp only [LY_si, LY_sj]; exact L0) (by decide)) (LY.k1262 (by simp only [LY_si, LY_sj]; exact L0)) (by decide) rfl (hi_hsi_nk (by decide))) ?_
      refine r_icmp_ge (tgt := 33) rfl rfl (fun qc3 => ?_) (fun qc3 => ?_)
      · replace hf := xi_pos hf qc3
        refine XS.go (s_iconst (v := (-1)) rfl rfl) ?_
        cases hf
        exact XR.reti rfl rfl (fun hret => ⟨_, hret, ⟨rfl, rfl⟩, (by simp only [LY_si, LY_sj]; exact L0)⟩)
      · replace hf := xi_neg hf qc3
        refine XS.go (s_aloadn rfl rfl rfl) ?_
        refine XS.go (s_getr rfl xf12_160 (LY.lt (by simp only [LY_si, LY_sj]; exact L0) (by decide)) (LY.k1262 (by simp only [LY_si, LY_sj]; exact L0)) (by decide) rfl (LY.r1262_79 (by simp only [LY_si, LY_sj]; exact L0))) ?_
        refine XS.go (s_iloadn rfl rfl rfl) ?_
        replace hf := xi_none hf
        obtain ⟨qk4, hf⟩ := hf
        refine XS.go (s_ialde rfl (LY.lt (by simp only [LY_si, LY_sj]; exact L0) (by decide)) (LY.k1311 (by simp only [LY_si, LY_sj]; exact L0)) (inLit (LY.n1311 (by simp only [LY_si, LY_sj]; exact L0)) qk4.1 qk4.2 (by decide)) (hi_hsi_na (by decide))) ?_
        refine XS.go (s_goto (tgt := 34) rfl rfl) ?_
        cases hf
        exact XR.reti rfl rfl (fun hret => ⟨_, hret, ⟨rfl, rfl⟩, (by simp only [LY_si, LY_sj]; exact L0)⟩)
