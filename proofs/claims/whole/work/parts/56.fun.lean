/-! Methods as functions of the heap -/
def b_t_fieldOf_13 (y0 : Option Nat) (h : XH) : Option (Option Nat × XH) := (some (y0, h))
set_option maxRecDepth 20000 in
theorem kb_t_fieldOf_13 {l : Launch} {G : XG} {d : Nat} {y0 : Option Nat} {h : XH} {r : Option Nat × XH} (L0 : LY h) (hf : b_t_fieldOf_13 y0 h = some r) : XR l G xEX11_fieldOf (d + 1) (13, [none, none], [(va_rf y0)], h) (fun C => ∃ v, xRet xEX11_fieldOf C v ∧ (C.2.2.2 = r.2 ∧ v = some (va_rf r.1)) ∧ LY r.2) := by
  unfold b_t_fieldOf_13 at hf
  cases hf
  exact XR.reta (o := y0) rfl rfl (fun hret => ⟨_, hret, ⟨rfl, rfl⟩, L0⟩)
def f_t_fieldOf (a0 : Nat) (a1 : Int32) (h : XH) : Option (Option Nat × XH) := (if a0 < hz h ∧ hk h a0 = 2 then (match f_d_fieldAt a0 a1 h with | none => none | some r2 => (b_t_fieldOf_13 r2.1 r2.2)) else none)
set_option maxRecDepth 20000 in
theorem kf_t_fieldOf {l : Launch} {G : XG} {d : Nat} {a0 : Nat} {a1 : Int32} {h : XH} {r : Option Nat × XH} (L0 : LY h) (hf : f_t_fieldOf a0 a1 h = some r) : XC l G xEX11_fieldOf (d + 1) [.ref a0, .int a1] h (fun v h2 => (h2 = r.2 ∧ v = some (va_rf r.1)) ∧ LY r.2) := by
  refine XC.stat xsX11_fieldOf (Nat.le_of_ble_eq_true rfl) ?_
  unfold f_t_fieldOf at hf
  refine XS.go (s_aloadn rfl rfl rfl) ?_
  refine XS.go (s_ifnonnull_r (tgt := 8) rfl rfl) ?_
  refine XS.go (s_aloadn rfl rfl rfl) ?_
  refine XS.go (s_iloadn rfl rfl rfl) ?_
  by_cases qk1 : a0 < hz h ∧ hk h a0 = 2
  rotate_left
  · rw [if_neg qk1] at hf; cases hf
  rw [if_pos qk1] at hf
  rcases e3 : f_d_fieldAt a0 a1 h with _ | r2
  · rw [e3] at hf; cases hf
  rw [e3] at hf; dsimp only at hf
  refine r_callv rfl xvX2_fieldAt xm11_189 (kf_d_fieldAt (d := d) L0 e3) qk1.1 qk1.2 (by decide) rfl rfl (by omega) (by decide) (Nat.le_of_ble_eq_true rfl) ?_
  rintro _ _ ⟨⟨rfl, rfl⟩, L4⟩
  exact XR.forget (L2 := [none, none]) trivial (kb_t_fieldOf_13 L4 hf)
def f_r_found (a0 : Int32) (a1 : Int32) (a2 : Int32) (a3 : Int32) (h : XH) : Option (Unit × XH) := (some ((), (hsi (hsj (hsi (hsi (hsi (hsi h 1255 6 a0) 1255 7 a1) 1255 9 a2) 1255 8 a3) 1255 10 0) 1255 11 0)))
set_option maxRecDepth 20000 in
theorem kf_r_found {l : Launch} {G : XG} {d : Nat} {a0 : Int32} {a1 : Int32} {a2 : Int32} {a3 : Int32} {h : XH} {r : Unit × XH} (L0 : LY h) (hf : f_r_found a0 a1 a2 a3 h = some r) : XC l G xEX8_found d [.ref 1255, .int a0, .int a1, .int a2, .int a3] h (fun v h2 => (h2 = r.2 ∧ v = none) ∧ LY r.2) := by
  refine XC.virt xvX8_found (Nat.le_of_ble_eq_true rfl) ?_
  unfold f_r_found at hf
  refine XS.go (s_aloadn rfl rfl rfl) ?_
  refine XS.go (s_iloadn rfl rfl rfl) ?_
  refine XS.go (s_puti rfl xf8_35 (LY.lt L0 (by decide)) (LY.k1255 L0) (by decide) rfl (Or.inl rfl)) ?_
  refine XS.go (s_aloadn rfl rfl rfl) ?_
  refine XS.go (s_iloadn rfl rfl rfl) ?_
  refine XS.go (s_puti rfl xf8_38 (LY.lt (by simp only [LY_si, LY_sj]; exact L0) (by decide)) (LY.k1255 (by simp only [LY_si, LY_sj]; exact L0)) (by decide) rfl (Or.inl rfl)) ?_
  refine XS.go (s_aloadn rfl rfl rfl) ?_
  refine XS.go (s_iloadn rfl rfl rfl) ?_
  refine XS.go (s_puti rfl xf8_44 (LY.lt (by simp only [LY_si, LY_sj]; exact L0) (by decide)) (LY.k1255 (by simp only [LY_si, LY_sj]; exact L0)) (by decide) rfl (Or.inl rfl)) ?_
  refine XS.go (s_aloadn rfl rfl rfl) ?_
  refine XS.go (s_iload rfl rfl) ?_
  refine XS.go (s_puti rfl xf8_41 (LY.lt (by simp only [LY_si, LY_sj]; exact L0) (by decide)) (LY.k1255 (by simp only [LY_si, LY_sj]; exact L0)) (by decide) rfl (Or.inl rfl)) ?_
  refine XS.go (s_aloadn rfl rfl rfl) ?_
  refine XS.go (s_lconst (v := 0) rfl rfl) ?_
  refine XS.go (s_putj rfl xf8_47 (LY.lt (by simp only [LY_si, LY_sj]; exact L0) (by decide)) (LY.k1255 (by simp only [LY_si, LY_sj]; exact L0)) (by decide) rfl (Or.inl rfl)) ?_
  refine XS.go (s_aloadn rfl rfl rfl) ?_
  refine XS.go (s_iconst (v := 0) rfl rfl) ?_
  refine XS.go (s_puti rfl xf8_51 (LY.lt (by simp only [LY_si, LY_sj]; exact L0) (by decide)) (LY.k1255 (by simp only [LY_si, LY_sj]; exact L0)) (by decide) rfl (Or.inl rfl)) ?_
  cases hf
  exact XR.retv rfl rfl (fun hret => ⟨_, hret, ⟨rfl, rfl⟩, (by simp only [LY_si, LY_sj]; exact L0)⟩)
def b_r_locateMember_76 (y1 : Int32) (h : XH) : Option (Unit × XH) := (some ((), (hsi h 1255 7 y1)))
set_option maxRecDepth 20000 in
theorem kb_r_locateMember_76 {l : Launch} {G : XG} {d : Nat} {y1 : Int32} {h : XH} {r : Unit × XH} (L0 : LY h) (hf : b_r_locateMember_76 y1 h = some r) : XR l G xEX8_locateMember (d + 3) (76, [none, none, none, none, none], [(.int y1), (.ref 1255)], h) (fun C => ∃ v, xRet xEX8_locateMember C v ∧ (C.2.2.2 = r.2 ∧ v = none) ∧ LY r.2) := by
  unfold b_r_locateMember_76 at hf
  refine XS.go (s_puti rfl xf8_38 (LY.lt L0 (by decide)) (LY.k1255 L0) (by decide) rfl (Or.inl rfl)) ?_
  cases hf
  exact XR.retv rfl rfl (fun hret => ⟨_, hret, ⟨rfl, rfl⟩, (by simp only [LY_si, LY_sj]; exact L0)⟩)
def b_r_locateMember_58 (x4 : Option Nat) (y1 : Int32) (h : XH) : Option (Unit × XH) := (match x4 with | none => (b_r_locateMember_76 (-1) (hsi h 1255 8 y1)) | some b2 => (if b2 < hz h ∧ hk h b2 = 3 then (b_r_locateMember_76 (hi h b2 4) (hsi h 1255 8 y1)) else none))
set_option maxRecDepth 20000 in
theorem kb_r_locateMember_58 {l : Launch} {G : XG} {d : Nat} {x4 : Option Nat} {y1 : Int32} {h : XH} {r : Unit × XH} (L0 : LY h) (hf : b_r_locateMember_58 x4 y1 h = some r) : XR l G xEX8_locateMember (d + 3) (58, [some (.ref 1255), none, none, none, some (va_rf x4)], [(.int y1), (.ref 1255)], h) (fun C => ∃ v, xRet xEX8_locateMember C v ∧ (C.2.2.2 = r.2 ∧ v = none) ∧ LY r.2) := by
  unfold b_r_locateMember_58 at hf
  refine XS.go (s_puti rfl xf8_41 (LY.lt L0 (by decide)) (LY.k1255 L0) (by decide) rfl (Or.inl rfl)) ?_
  refine XS.go (s_aloadn rfl rfl rfl) ?_
  refine XS.go (s_aloadO rfl rfl) ?_
  refine r_ifnonnull (tgt := 71) rfl rfl (fun qn1 => ?_) (fun b2 qn1 => ?_)
  · rw [qn1] at hf; dsimp only at hf; try rw [qn1]
    refine XS.go (s_iconst (v := (-1)) rfl rfl) ?_
    refine XS.go (s_goto (tgt := 76) rfl rfl) ?_
    exact XR.forget (L2 := [none, none, none, none, none]) trivial (kb_r_locateMember_76 (by simp only [LY_si, LY_sj]; exact L0) hf)
  · rw [qn1] at hf; dsimp only at hf; try rw [qn1]
    refine XS.go (s_aload rfl rfl) ?_
    by_cases qk3 : b2 < hz h ∧ hk h b2 = 3
    rotate_left
    · rw [if_neg qk3] at hf; cases hf
    rw [if_pos qk3] at hf
    refine XS.go (s_getie rfl xf8_140 (by simp only [hz_hsi, hk_hsi, hz_hsj, hk_hsj]; exact qk3.1) (by simp only [hz_hsi, hk_hsi, hz_hsj, hk_hsj]; exact qk3.2) (by decide) rfl (hi_hsi_nk (by decide))) ?_
    exact XR.forget (L2 := [none, none, none, none, none]) trivial (kb_r_locateMember_76 (by simp only [LY_si, LY_sj]; exact L0) hf)
def b_r_locateMember_24 (x1 : Nat) (x2 : Int32) (x3 : Int32) (y1 : Int32) (h : XH) : Option (Unit × XH) := (match f_t_fieldOf x1 (y1 - 1) (hsi h 1255 11 y1) with | none => none | some r4 => (match r4.1 with | none => (b_r_locateMember_58 none (-1) r4.2) | some b8 => (match f_b_storedAt 1256 x2 x3 r4.2 with | none => none | some r9 => (b_r_locateMember_58 (some b8) r9.1 r9.2))))
set_option maxRecDepth 20000 in
theorem kb_r_locateMember_24 {l : Launch} {G : XG} {d : Nat} {x1 : Nat} {x2 : Int32} {x3 : Int32} {y1 : Int32} {h : XH} {r : Unit × XH} (L0 : LY h) (hf : b_r_locateMember_24 x1 x2 x3 y1 h = some r) : XR l G xEX8_locateMember (d + 3) (24, [some (.ref 1255), some (.ref x1), some (.int x2), some (.int x3), none], [(.int y1), (.ref 1255)], h) (fun C => ∃ v, xRet xEX8_locateMember C v ∧ (C.2.2.2 = r.2 ∧ v = none) ∧ LY r.2) := by
  unfold b_r_locateMember_24 at hf
  refine XS.go (s_puti rfl xf8_51 (LY.lt L0 (by decide)) (LY.k1255 L0) (by decide) rfl (Or.inl rfl)) ?_
  refine XS.go (s_aloadn rfl rfl rfl) ?_
  refine XS.go (s_aloadn rfl rfl rfl) ?_
  refine XS.go (s_getie rfl xf8_51 (LY.lt (by simp only [LY_si, LY_sj]; exact L0) (by decide)) (LY.k1255 (by simp only [LY_si, LY_sj]; exact L0)) (by decide) rfl hi_hsi_eq) ?_
  refine XS.go (s_iconst (v := 1) rfl rfl) ?_
  refine XS.go (s_isub rfl) ?_
  rcases e5 : f_t_fieldOf x1 (y1 - 1) (hsi h 1255 11 y1) with _ | r4
  · rw [e5] at hf; cases hf
  rw [e5] at hf; dsimp only at hf
  refine r_callsn rfl xsX11_fieldOf (List.mem_of_getElem? (i := 10) rfl) (kf_t_fieldOf (d := d) (by simp only [LY_si, LY_sj]; exact L0) e5) rfl rfl (by omega) (by decide) (Nat.le_of_ble_eq_true rfl) ?_
  rintro _ _ ⟨⟨rfl, rfl⟩, L6⟩
  refine XS.go (s_astoreO rfl (Nat.le_of_ble_eq_true rfl)) ?_
  refine XS.go (s_aloadn rfl rfl rfl) ?_
  refine XS.go (s_aloadO rfl rfl) ?_
  refine r_ifnonnull (tgt := 49) rfl rfl (fun qn7 => ?_) (fun b8 qn7 => ?_)
  · rw [qn7] at hf; dsimp only at hf; try rw [qn7]
    refine XS.go (s_iconst (v := (-1)) rfl rfl) ?_
    refine XS.go (s_goto (tgt := 58) rfl rfl) ?_
    exact XR.forget (L2 := [some (.ref 1255), none, none, none, some (va_rf none)]) ⟨rfl, ⟨rfl, trivial⟩⟩ (kb_r_locateMember_58 L6 hf)
  · rw [qn7] at hf; dsimp only at hf; try rw [qn7]
    refine XS.go (s_aloadn rfl rfl rfl) ?_
    refine XS.go (s_getr rfl xf8_12 (LY.lt L6 (by decide)) (LY.k1255 L6) (by decide) rfl (LY.r1255_0 L6)) ?_
    refine XS.go (s_iloadn rfl rfl rfl) ?_
    refine XS.go (s_iloadn rfl rfl rfl) ?_
    rcases e10 : f_b_storedAt 1256 x2 x3 r4.2 with _ | r9
    · rw [e10] at hf; cases hf
    rw [e10] at hf; dsimp only at hf
    refine r_callv rfl xvX1_storedAt xm8_134 (kf_b_storedAt (d := d) L6 e10) (LY.lt L6 (by decide)) (LY.k1256 L6) (by decide) rfl rfl (by omega) (by decide) (Nat.le_of_ble_eq_true rfl) ?_
    rintro _ _ ⟨⟨rfl, rfl⟩, L11⟩
    exact XR.forget (L2 := [some (.ref 1255), none, none, none, some (.ref b8)]) ⟨rfl, ⟨rfl, trivial⟩⟩ (kb_r_locateMember_58 L11 hf)
def f_r_locateMember (a0 : Nat) (a1 : Int32) (a2 : Int32) (h : XH) : Option (Unit × XH) := (if ¬ (hi h 1255 8) = (-1) then (match f_b_octet 1256 (hi h 1255 8) h with | none => none | some r13 => (b_r_locateMember_24 a0 a1 a2 r13.1 r13.2)) else (b_r_locateMember_24 a0 a1 a2 0 h))
set_option maxRecDepth 20000 in
theorem kf_r_locateMember {l : Launch} {G : XG} {d : Nat} {a0 : Nat} {a1 : Int32} {a2 : Int32} {h : XH} {r : Unit × XH} (L0 : LY h) (hf : f_r_locateMember a0 a1 a2 h = some r) : XC l G xEX8_locateMember (d + 3) [.ref 1255, .ref a0, .int a1, .int a2] h (fun v h2 => (h2 = r.2 ∧ v = none) ∧ LY r.2) := by
  refine XC.virt xvX8_locateMember (Nat.le_of_ble_eq_true rfl) ?_
  unfold f_r_locateMember at hf
  refine XS.go (s_aloadn rfl rfl rfl) ?_
  refine XS.go (s_aloadn rfl rfl rfl) ?_
  refine XS.go (s_getie rfl xf8_41 (LY.lt L0 (by decide)) (LY.k1255 L0) (by decide) rfl rfl) ?_
  refine XS.go (s_iconst (v := (-1)) rfl rfl) ?_
  refine r_icmp_ne (tgt := 13) rfl rfl (fun qc12 => ?_) (fun qc12 => ?_)
  · rw [if_pos qc12] at hf
    refine XS.go (s_aloadn rfl rfl rfl) ?_
    refine XS.go (s_getr rfl xf8_12 (LY.lt L0 (by decide)) (LY.k1255 L0) (by decide) rfl (LY.r1255_0 L0)) ?_
    refine XS.go (s_aloadn rfl rfl rfl) ?_
    refine XS.go (s_getie rfl xf8_41 (LY.lt L0 (by decide)) (LY.k1255 L0) (by decide) rfl rfl) ?_
    rcases e14 : f_b_octet 1256 (hi h 1255 8) h with _ | r13
    · rw [e14] at hf; cases hf
    rw [e14] at hf; dsimp only at hf
    refine r_callv rfl xvX1_octet xm8_155 (kf_b_octet (d := d) L0 e14) (LY.lt L0 (by decide)) (LY.k1256 L0) (by decide) rfl rfl (by omega) (by decide) (Nat.le_of_ble_eq_true rfl) ?_
    rintro _ _ ⟨⟨rfl, rfl⟩, L15⟩
    exact XR.forget (L2 := [some (.ref 1255), some (.ref a0), some (.int a1), some (.int a2), none]) ⟨rfl, ⟨rfl, ⟨rfl, ⟨rfl, trivial⟩⟩⟩⟩ (kb_r_locateMember_24 L15 hf)
  · rw [if_neg qc12] at hf
    refine XS.go (s_iconst (v := 0) rfl rfl) ?_
    refine XS.go (s_goto (tgt := 24) rfl rfl) ?_
    exact XR.forget (L2 := [some (.ref 1255), some (.ref a0), some (.int a1), some (.int a2), none]) ⟨rfl, ⟨rfl, ⟨rfl, ⟨rfl, trivial⟩⟩⟩⟩ (kb_r_locateMember_24 L0 hf)
def b_r_locateField_69 (x1 : Nat) (x2 : Nat) (x3 : Int32) (y0 : Int32) (h : XH) : Option (Int32 × XH) := (if x2 < hz h ∧ hk h x2 = 3 then (match f_r_found (hi h x2 3) (hi h x2 4) (hi h x2 5) y0 h with | none => none | some r2 => (if x2 < hz r2.2 ∧ hk r2.2 x2 = 3 then (if ¬ (hi r2.2 x2 3) = 4 then (some (1, (hsj r2.2 1255 10 (hj r2.2 x2 8)))) else (if x1 < hz r2.2 ∧ hk r2.2 x1 = 9 then (match hr r2.2 x1 2 with | none => none | some b8 => (if b8 < hz r2.2 ∧ hk r2.2 b8 = 4 then (match f_g_at b8 (hi r2.2 x2 4) (hsj r2.2 1255 10 (hj r2.2 x2 8)) with | none => none | some r11 => (if x2 < hz r11.2 ∧ hk r11.2 x2 = 3 then (match r11.1 with | none => none | some b15 => (match f_r_locateMember b15 x3 ((hi r11.2 x2 6) + 1) r11.2 with | none => none | some r17 => (some (1, r17.2)))) else none)) else none)) else none)) else none)) else none)
set_option maxRecDepth 20000 in
theorem kb_r_locateField_69 {l : Launch} {G : XG} {d : Nat} {x1 : Nat} {x2 : Nat} {x3 : Int32} {y0 : Int32} {h : XH} {r : Int32 × XH} (L0 : LY h) (hf : b_r_locateField_69 x1 x2 x3 y0 h = some r) : XR l G xEX8_locateField (d + 4) (69, [some (.ref 1255), some (.ref x1), some (.ref x2), some (.int x3), none, none], [(.int y0)], h) (fun C => ∃ v, xRet xEX8_locateField C v ∧ (C.2.2.2 = r.2 ∧ v = some (.int r.1)) ∧ LY r.2) := by
  unfold b_r_locateField_69 at hf
  refine XS.go (s_istore rfl (Nat.le_of_ble_eq_true rfl)) ?_
  refine XS.go (s_aloadn rfl rfl rfl) ?_
  refine XS.go (s_aloadn rfl rfl rfl) ?_
  by_cases qk1 : x2 < hz h ∧ hk h x2 = 3
  rotate_left
  · rw [if_neg qk1] at hf; cases hf
  rw [if_pos qk1] at hf
  refine XS.go (s_getie rfl xf8_137 qk1.1 qk1.2 (by decide) rfl rfl) ?_
  refine XS.go (s_aloadn rfl rfl rfl) ?_
  refine XS.go (s_getie rfl xf8_140 qk1.1 qk1.2 (by decide) rfl rfl) ?_
  refine XS.go (s_aloadn rfl rfl rfl) ?_
  refine XS.go (s_getie rfl xf8_142 qk1.1 qk1.2 (by decide) rfl rfl) ?_
  refine XS.go (s_iload rfl rfl) ?_
  rcases e3 : f_r_found (hi h x2 3) (hi h x2 4) (hi h x2 5) y0 h with _ | r2
  · rw [e3] at hf; cases hf
  rw [e3] at hf; dsimp only at hf
  refine r_callv rfl xvX8_found xm8_113 (kf_r_found (d := d) L0 e3) (LY.lt L0 (by decide)) (LY.k1255 L0) (by decide) rfl rfl (by omega) (by decide) (Nat.le_of_ble_eq_true rfl) ?_
  rintro _ _ ⟨⟨rfl, rfl⟩, L4⟩
  refine XS.go (s_aloadn rfl rfl rfl) ?_
  refine XS.go (s_aloadn rfl rfl rfl) ?_
  by_cases qk5 : x2 < hz r2.2 ∧ hk r2.2 x2 = 3
  rotate_left
  · rw [if_neg qk5] at hf; cases hf
  rw [if_pos qk5] at hf
  refine XS.go (s_getje rfl xf8_145 qk5.1 qk5.2 (by decide) rfl rfl) ?_
  refine XS.go (s_putj rfl xf8_47 (LY.lt L4 (by decide)) (LY.k1255 L4) (by decide) rfl (Or.inl rfl)) ?_
  refine XS.go (s_aloadn rfl rfl rfl) ?_
  refine XS.go (s_getie rfl xf8_137 (by simp only [hz_hsi, hk_hsi, hz_hsj, hk_hsj]; exact qk5.1) (by simp only [hz_hsi, hk_hsi, hz_hsj, hk_hsj]; exact qk5.2) (by decide) rfl (congrFun hi_hsj _)) ?_
  refine XS.go (s_iconst (v := 4) rfl rfl) ?_
  refine r_icmp_ne (tgt := 127) rfl rfl (fun qc6 => ?_) (fun qc6 => ?_)
  · rw [if_pos qc6] at hf
    refine XS.go (s_iconst (v := 1) rfl rfl) ?_
    cases hf
    exact XR.retz rfl rfl (by decide) (fun hret => ⟨_, hret, ⟨rfl, rfl⟩, (by simp only [LY_si, LY_sj]; exact L4)⟩)
  · rw [if_neg qc6] at hf
    refine XS.go (s_aloadn rfl rfl rfl) ?_
    refine XS.go (s_aloadn rfl rfl rfl) ?_
    by_cases qk7 : x1 < hz r2.2 ∧ hk r2.2 x1 = 9
    rotate_left
    · rw [if_neg qk7] at hf; cases hf
    rw [if_pos qk7] at hf
    rcases qr9 : hr r2.2 x1 2 with _ | b8
    · rw [qr9] at hf; cases hf
    rw [qr9] at hf; dsimp only at hf
    refine XS.go (s_getr rfl xf8_148 (by simp only [hz_hsi, hk_hsi, hz_hsj, hk_hsj]; exact qk7.1) (by simp only [hz_hsi, hk_hsi, hz_hsj, hk_hsj]; exact qk7.2) (by decide) rfl (by simp only [hr_hsi, hr_hsj]; exact qr9)) ?_
    refine XS.go (s_aloadn rfl rfl rfl) ?_
    refine XS.go (s_getie rfl xf8_140 (by simp only [hz_hsi, hk_hsi, hz_hsj, hk_hsj]; exact qk5.1) (by simp only [hz_hsi, hk_hsi, hz_hsj, hk_hsj]; exact qk5.2) (by decide) rfl (congrFun hi_hsj _)) ?_
    by_cases qk10 : b8 < hz r2.2 ∧ hk r2.2 b8 = 4
    rotate_left
    · rw [if_neg qk10] at hf; cases hf
    rw [if_pos qk10] at hf
    rcases e12 : f_g_at b8 (hi r2.2 x2 4) (hsj r2.2 1255 10 (hj r2.2 x2 8)) with _ | r11
    · rw [e12] at hf; cases hf
    rw [e12] at hf; dsimp only at hf
    refine r_callv rfl xvX4_at xm8_91 (kf_g_at (d := d) (by simp only [LY_si, LY_sj]; exact L4) e12) (by simp only [hz_hsi, hk_hsi, hz_hsj, hk_hsj]; exact qk10.1) (by simp only [hz_hsi, hk_hsi, hz_hsj, hk_hsj]; exact qk10.2) (by decide) rfl rfl (by omega) (by decide) (Nat.le_of_ble_eq_true rfl) ?_
    rintro _ _ ⟨⟨rfl, rfl⟩, L13⟩
    refine XS.go (s_iloadn rfl rfl rfl) ?_
    refine XS.go (s_aloadn rfl rfl rfl) ?_
    by_cases qk14 : x2 < hz r11.2 ∧ hk r11.2 x2 = 3
    rotate_left
    · rw [if_neg qk14] at hf; cases hf
    rw [if_pos qk14] at hf
    refine XS.go (s_getie rfl xf8_129 qk14.1 qk14.2 (by decide) rfl rfl) ?_
    refine XS.go (s_iconst (v := 1) rfl rfl) ?_
    refine XS.go (s_iadd rfl) ?_
    rcases qo16 : r11.1 with _ | b15
    · rw [qo16] at hf; cases hf
    rw [qo16] at hf; dsimp only at hf; try rw [qo16]
    rcases e18 : f_r_locateMember b15 x3 ((hi r11.2 x2 6) + 1) r11.2 with _ | r17
    · rw [e18] at hf; cases hf
    rw [e18] at hf; dsimp only at hf
    refine r_callv rfl xvX8_locateMember xm8_151 (kf_r_locateMember (d := d) L13 e18) (LY.lt L13 (by decide)) (LY.k1255 L13) (by decide) rfl rfl (by omega) (by decide) (Nat.le_of_ble_eq_true rfl) ?_
    rintro _ _ ⟨⟨rfl, rfl⟩, L19⟩
    refine XS.go (s_iconst (v := 1) rfl rfl) ?_
    cases hf
    exact XR.retz rfl rfl (by decide) (fun hret => ⟨_, hret, ⟨rfl, rfl⟩, L19⟩)
def b_r_locateField_41 (x1 : Nat) (x2 : Nat) (x3 : Int32) (y0 : Int32) (h : XH) : Option (Int32 × XH) := (if y0 = 0 then (if x2 < hz h ∧ hk h x2 = 3 then (match f_b_storedAt 1256 x3 (hi h x2 6) h with | none => none | some r22 => (b_r_locateField_69 x1 x2 x3 r22.1 r22.2)) else none) else (if x2 < hz h ∧ hk h x2 = 3 then (b_r_locateField_69 x1 x2 x3 (x3 + (hi h x2 6)) h) else none))
set_option maxRecDepth 20000 in
theorem kb_r_locateField_41 {l : Launch} {G : XG} {d : Nat} {x1 : Nat} {x2 : Nat} {x3 : Int32} {y0 : Int32} {h : XH} {r : Int32 × XH} (L0 : LY h) (hf : b_r_locateField_41 x1 x2 x3 y0 h = some r) : XR l G xEX8_locateField (d + 4) (41, [some (.ref 1255), some (.ref x1), some (.ref x2), some (.int x3), none, none], [(.int y0)], h) (fun C => ∃ v, xRet xEX8_locateField C v ∧ (C.2.2.2 = r.2 ∧ v = some (.int r.1)) ∧ LY r.2) := by
  unfold b_r_locateField_41 at hf
  refine XS.go (s_istore rfl (Nat.le_of_ble_eq_true rfl)) ?_
  refine XS.go (s_iload rfl rfl) ?_
  refine r_if_eq (tgt := 57) rfl rfl (fun qc20 => ?_) (fun qc20 => ?_)
  · rw [if_pos qc20] at hf
    refine XS.go (s_aloadn rfl rfl rfl) ?_
    refine XS.go (s_getr rfl xf8_12 (LY.lt L0 (by decide)) (LY.k1255 L0) (by decide) rfl (LY.r1255_0 L0)) ?_
    refine XS.go (s_iloadn rfl rfl rfl) ?_
    refine XS.go (s_aloadn rfl rfl rfl) ?_
    by_cases qk21 : x2 < hz h ∧ hk h x2 = 3
    rotate_left
    · rw [if_neg qk21] at hf; cases hf
    rw [if_pos qk21] at hf
    refine XS.go (s_getie rfl xf8_129 qk21.1 qk21.2 (by decide) rfl rfl) ?_
    rcases e23 : f_b_storedAt 1256 x3 (hi h x2 6) h with _ | r22
    · rw [e23] at hf; cases hf
    rw [e23] at hf; dsimp only at hf
    refine r_callv rfl xvX1_storedAt xm8_134 (kf_b_storedAt (d := d) L0 e23) (LY.lt L0 (by decide)) (LY.k1256 L0) (by decide) rfl rfl (by omega) (by decide) (Nat.le_of_ble_eq_true rfl) ?_
    rintro _ _ ⟨⟨rfl, rfl⟩, L24⟩
    exact XR.forget (L2 := [some (.ref 1255), some (.ref x1), some (.ref x2), some (.int x3), none, none]) ⟨rfl, ⟨rfl, ⟨rfl, ⟨rfl, trivial⟩⟩⟩⟩ (kb_r_locateField_69 L24 hf)
  · rw [if_neg qc20] at hf
    refine XS.go (s_iloadn rfl rfl rfl) ?_
    refine XS.go (s_aloadn rfl rfl rfl) ?_
    by_cases qk25 : x2 < hz h ∧ hk h x2 = 3
    rotate_left
    · rw [if_neg qk25] at hf; cases hf
    rw [if_pos qk25] at hf
    refine XS.go (s_getie rfl xf8_129 qk25.1 qk25.2 (by decide) rfl rfl) ?_
    refine XS.go (s_iadd rfl) ?_
    refine XS.go (s_goto (tgt := 69) rfl rfl) ?_
    exact XR.forget (L2 := [some (.ref 1255), some (.ref x1), some (.ref x2), some (.int x3), none, none]) ⟨rfl, ⟨rfl, ⟨rfl, ⟨rfl, trivial⟩⟩⟩⟩ (kb_r_locateField_69 L0 hf)
def f_r_locateField (a0 : Nat) (a1 : Nat) (h : XH) : Option (Int32 × XH) := (match f_r_isAtHand h with | none => none | some r26 => (if ¬ r26.1 = 0 then (if 0 ≤ (hi r26.2 1255 5) ∧ (hi r26.2 1255 5) < nI 64 then (if ¬ (hi r26.2 1258 (Int32.toNatClampNeg (hi r26.2 1255 5))) = 2 then (b_r_locateField_41 a0 a1 (hi r26.2 1261 (Int32.toNatClampNeg (hi r26.2 1255 5))) 0 r26.2) else (b_r_locateField_41 a0 a1 (hi r26.2 1261 (Int32.toNatClampNeg (hi r26.2 1255 5))) 1 r26.2)) else none) else (some (0, r26.2))))
set_option maxRecDepth 20000 in
theorem kf_r_locateField {l : Launch} {G : XG} {d : Nat} {a0 : Nat} {a1 : Nat} {h : XH} {r : Int32 × XH} (L0 : LY h) (hf : f_r_locateField a0 a1 h = some r) : XC l G xEX8_locateField (d + 4) [.ref 1255, .ref a0, .ref a1] h (fun v h2 => (h2 = r.2 ∧ v = some (.int r.1)) ∧ LY r.2) := by
  refine XC.virt xvX8_locateField (Nat.le_of_ble_eq_true rfl) ?_
  unfold f_r_locateField at hf
  refine XS.go (s_aloadn rfl rfl rfl) ?_
  refine XS.go (s_ifnull_r rfl) ?_
  refine XS.go (s_aloadn rfl rfl rfl) ?_
  rcases e27 : f_r_isAtHand h with _ | r26
  · rw [e27] at hf; cases hf
  rw [e27] at hf; dsimp only at hf
  refine r_callv rfl xvX8_isAtHand xm8_77 (kf_r_isAtHand (d := d) L0 e27) (LY.lt L0 (by decide)) (LY.k1255 L0) (by decide) rfl rfl (by omega) (by decide) (Nat.le_of_ble_eq_true rfl) ?_
  rintro _ _ ⟨⟨rfl, rfl⟩, L28⟩
  refine r_if_ne (tgt := 13) rfl rfl (fun qc29 => ?_) (fun qc29 => ?_)
  · rw [if_pos qc29] at hf
    refine XS.go (s_aloadn rfl rfl rfl) ?_
    refine XS.go (s_getr rfl xf8_28 (LY.lt L28 (by decide)) (LY.k1255 L28) (by decide) rfl (LY.r1255_4 L28)) ?_
    refine XS.go (s_aloadn rfl rfl rfl) ?_
    refine XS.go (s_getie rfl xf8_31 (LY.lt L28 (by decide)) (LY.k1255 L28) (by decide) rfl rfl) ?_
    by_cases qk30 : 0 ≤ (hi r26.2 1255 5) ∧ (hi r26.2 1255 5) < nI 64
    rotate_left
    · rw [if_neg qk30] at hf; cases hf
    rw [if_pos qk30] at hf
    refine XS.go (s_ialde rfl (LY.lt L28 (by decide)) (LY.k1261 L28) (inLit (LY.n1261 L28) qk30.1 qk30.2 (by decide)) rfl) ?_
    refine XS.go (s_istoren rfl rfl (Nat.le_of_ble_eq_true rfl)) ?_
    refine XS.go (s_aloadn rfl rfl rfl) ?_
    refine XS.go (s_getr rfl xf8_18 (LY.lt L28 (by decide)) (LY.k1255 L28) (by decide) rfl (LY.r1255_1 L28)) ?_
    refine XS.go (s_aloadn rfl rfl rfl) ?_
    refine XS.go (s_getie rfl xf8_31 (LY.lt L28 (by decide)) (LY.k1255 L28) (by decide) rfl rfl) ?_
    refine XS.go (s_ialde rfl (LY.lt L28 (by decide)) (LY.k1258 L28) (inLit (LY.n1258 L28) qk30.1 qk30.2 (by decide)) rfl) ?_
    refine XS.go (s_iconst (v := 2) rfl rfl) ?_
    refine r_icmp_ne (tgt := 40) rfl rfl (fun qc31 => ?_) (fun qc31 => ?_)
    · rw [if_pos qc31] at hf
      refine XS.go (s_iconst (v := 0) rfl rfl) ?_
      exact XR.forget (L2 := [some (.ref 1255), some (.ref a0), some (.ref a1), some (.int (hi r26.2 1261 (Int32.toNatClampNeg (hi r26.2 1255 5)))), none, none]) ⟨rfl, ⟨rfl, ⟨rfl, ⟨rfl, trivial⟩⟩⟩⟩ (kb_r_locateField_41 L28 hf)
    · rw [if_neg qc31] at hf
      refine XS.go (s_iconst (v := 1) rfl rfl) ?_
      refine XS.go (s_goto (tgt := 41) rfl rfl) ?_
      exact XR.forget (L2 := [some (.ref 1255), some (.ref a0), some (.ref a1), some (.int (hi r26.2 1261 (Int32.toNatClampNeg (hi r26.2 1255 5)))), none, none]) ⟨rfl, ⟨rfl, ⟨rfl, ⟨rfl, trivial⟩⟩⟩⟩ (kb_r_locateField_41 L28 hf)
  · rw [if_neg qc29] at hf
    refine XS.go (s_iconst (v := 0) rfl rfl) ?_
    cases hf
    exact XR.retz rfl rfl (by decide) (fun hret => ⟨_, hret, ⟨rfl, rfl⟩, L28⟩)
def f_r_locate (a0 : Nat) (a1 : Int32) (h : XH) : Option (Int32 × XH) := (match f_r_isAtHand h with | none => none | some r1 => (if r1.1 = 0 then (some (0, r1.2)) else (if a1 < 0 then (some (0, r1.2)) else (match f_r_partCount a0 r1.2 with | none => none | some r6 => (if a1 < r6.1 then (if 0 ≤ (hi r6.2 1255 5) ∧ (hi r6.2 1255 5) < nI 64 then (if ¬ (hi r6.2 1258 (Int32.toNatClampNeg (hi r6.2 1255 5))) = 1 then (if ¬ (hi r6.2 1258 (Int32.toNatClampNeg (hi r6.2 1255 5))) = 5 then (match f_r_definitionAtHand a0 r6.2 with | none => none | some r13 => (match r13.1 with | none => none | some b16 => (match f_t_fieldOf b16 a1 r13.2 with | none => none | some r18 => (match r18.1 with | none => none | some b21 => (match f_r_locateField a0 b21 r18.2 with | none => none | some r23 => (if r23.1 = 0 ∨ r23.1 = 1 then (some (r23.1, r23.2)) else none)))))) else (if a0 < hz r6.2 ∧ hk r6.2 a0 = 9 then (match f_s_bytesOf a0 (hi r6.2 1260 (Int32.toNatClampNeg (hi r6.2 1255 5))) (hi r6.2 1259 (Int32.toNatClampNeg (hi r6.2 1255 5))) r6.2 with | none => none | some r28 => (if 0 ≤ (hi r28.2 1255 5) ∧ (hi r28.2 1255 5) < nI 64 then (match f_r_found (hi r28.2 1260 (Int32.toNatClampNeg (hi r28.2 1255 5))) (hi r28.2 1259 (Int32.toNatClampNeg (hi r28.2 1255 5))) (-1) (((hi r6.2 1261 (Int32.toNatClampNeg (hi r6.2 1255 5))) + 4) + (a1 * r28.1)) r28.2 with | none => none | some r32 => (some (1, r32.2))) else none)) else none)) else (match f_r_found 6 0 (-1) (((hi r6.2 1261 (Int32.toNatClampNeg (hi r6.2 1255 5))) + 4) + a1) r6.2 with | none => none | some r35 => (some (1, r35.2)))) else none) else (some (0, r6.2)))))))
set_option maxRecDepth 20000 in
theorem kf_r_locate {l : Launch} {G : XG} {d : Nat} {a0 : Nat} {a1 : Int32} {h : XH} {r : Int32 × XH} (L0 : LY h) (hf : f_r_locate a0 a1 h = some r) : XC l G xEX8_locate (d + 5) [.ref 1255, .ref a0, .int a1] h (fun v h2 => (h2 = r.2 ∧ v = some (.int r.1)) ∧ LY r.2) := by
  refine XC.virt xvX8_locate (Nat.le_of_ble_eq_true rfl) ?_
  unfold f_r_locate at hf
  refine XS.go (s_aloadn rfl rfl rfl) ?_
  rcases e2 : f_r_isAtHand h with _ | r1
  · rw [e2] at hf; cases hf
  rw [e2] at hf; dsimp only at hf
  refine r_callv rfl xvX8_isAtHand xm8_77 (kf_r_isAtHand (d := d) L0 e2) (LY.lt L0 (by decide)) (LY.k1255 L0) (by decide) rfl rfl (by omega) (by decide) (Nat.le_of_ble_eq_true rfl) ?_
  rintro _ _ ⟨⟨rfl, rfl⟩, L3⟩
  refine r_if_eq (tgt := 20) rfl rfl (fun qc4 => ?_) (fun qc4 => ?_)
  · rw [if_pos qc4] at hf
    refine XS.go (s_iconst (v := 0) rfl rfl) ?_
    cases hf
    exact XR.retz rfl rfl (by decide) (fun hret => ⟨_, hret, ⟨rfl, rfl⟩, L3⟩)
  · rw [if_neg qc4] at hf
    refine XS.go (s_iloadn rfl rfl rfl) ?_
    refine r_if_lt (tgt := 20) rfl rfl (fun qc5 => ?_) (fun qc5 => ?_)
    · rw [if_pos qc5] at hf
      refine XS.go (s_iconst (v := 0) rfl rfl) ?_
      cases hf
      exact XR.retz rfl rfl (by decide) (fun hret => ⟨_, hret, ⟨rfl, rfl⟩, L3⟩)
    · rw [if_neg qc5] at hf
      refine XS.go (s_iloadn rfl rfl rfl) ?_
      refine XS.go (s_aloadn rfl rfl rfl) ?_
      refine XS.go (s_aloadn rfl rfl rfl) ?_
      rcases e7 : f_r_partCount a0 r1.2 with _ | r6
      · rw [e7] at hf; cases hf
      rw [e7] at hf; dsimp only at hf
      refine r_callv rfl xvX8_partCount xm8_81 (kf_r_partCount (d := d) L3 e7) (LY.lt L3 (by decide)) (LY.k1255 L3) (by decide) rfl rfl (by omega) (by decide) (Nat.le_of_ble_eq_true rfl) ?_
      rintro _ _ ⟨⟨rfl, rfl⟩, L8⟩
      refine r_icmp_lt (tgt := 22) rfl rfl (fun qc9 => ?_) (fun qc9 => ?_)
      · rw [if_pos qc9] at hf
        refine XS.go (s_aloadn rfl rfl rfl) ?_
        refine XS.go (s_getr rfl xf8_28 (LY.lt L8 (by decide)) (LY.k1255 L8) (by decide) rfl (LY.r1255_4 L8)) ?_
        refine XS.go (s_aloadn rfl rfl rfl) ?_
        refine XS.go (s_getie rfl xf8_31 (LY.lt L8 (by decide)) (LY.k1255 L8) (by decide) rfl rfl) ?_
        by_cases qk10 : 0 ≤ (hi r6.2 1255 5) ∧ (hi r6.2 1255 5) < nI 64
        rotate_left
        · rw [if_neg qk10] at hf; cases hf
        rw [if_pos qk10] at hf
        refine XS.go (s_ialde rfl (LY.lt L8 (by decide)) (LY.k1261 L8) (inLit (LY.n1261 L8) qk10.1 qk10.2 (by decide)) rfl) ?_
        refine XS.go (s_iconst (v := 4) rfl rfl) ?_
        refine XS.go (s_iadd rfl) ?_
        refine XS.go (s_istoren rfl rfl (Nat.le_of_ble_eq_true rfl)) ?_
        refine XS.go (s_aloadn rfl rfl rfl) ?_
        refine XS.go (s_getr rfl xf8_18 (LY.lt L8 (by decide)) (LY.k1255 L8) (by decide) rfl (LY.r1255_1 L8)) ?_
        refine XS.go (s_aloadn rfl rfl rfl) ?_
        refine XS.go (s_getie rfl xf8_31 (LY.lt L8 (by decide)) (LY.k1255 L8) (by decide) rfl rfl) ?_
        refine XS.go (s_ialde rfl (LY.lt L8 (by decide)) (LY.k1258 L8) (inLit (LY.n1258 L8) qk10.1 qk10.2 (by decide)) rfl) ?_
        refine XS.go (s_iconst (v := 1) rfl rfl) ?_
        refine r_icmp_ne (tgt := 60) rfl rfl (fun qc11 => ?_) (fun qc11 => ?_)
        · rw [if_pos qc11] at hf
          refine XS.go (s_aloadn rfl rfl rfl) ?_
          refine XS.go (s_getr rfl xf8_18 (LY.lt L8 (by decide)) (LY.k1255 L8) (by decide) rfl (LY.r1255_1 L8)) ?_
          refine XS.go (s_aloadn rfl rfl rfl) ?_
          refine XS.go (s_getie rfl xf8_31 (LY.lt L8 (by decide)) (LY.k1255 L8) (by decide) rfl rfl) ?_
          refine XS.go (s_ialde rfl (LY.lt L8 (by decide)) (LY.k1258 L8) (inLit (LY.n1258 L8) qk10.1 qk10.2 (by decide)) rfl) ?_
          refine XS.go (s_iconst (v := 5) rfl rfl) ?_
          refine r_icmp_ne (tgt := 128) rfl rfl (fun qc12 => ?_) (fun qc12 => ?_)
          · rw [if_pos qc12] at hf
            refine XS.go (s_aloadn rfl rfl rfl) ?_
            refine XS.go (s_aloadn rfl rfl rfl) ?_
            refine XS.go (s_aloadn rfl rfl rfl) ?_
            refine XS.go (s_aloadn rfl rfl rfl) ?_
            rcases e14 : f_r_definitionAtHand a0 r6.2 with _ | r13
            · rw [e14] at hf; cases hf
            rw [e14] at hf; dsimp only at hf
            refine r_callv rfl xvX8_definitionAtHand xm8_104 (kf_r_definitionAtHand (d := d) L8 e14) (LY.lt L8 (by decide)) (LY.k1255 L8) (by decide) rfl rfl (by omega) (by decide) (Nat.le_of_ble_eq_true rfl) ?_
            rintro _ _ ⟨⟨rfl, rfl⟩, L15⟩
            refine XS.go (s_iloadn rfl rfl rfl) ?_
            rcases qo17 : r13.1 with _ | b16
            · rw [qo17] at hf; cases hf
            rw [qo17] at hf; dsimp only at hf; try rw [qo17]
            rcases e19 : f_t_fieldOf b16 a1 r13.2 with _ | r18
            · rw [e19] at hf; cases hf
            rw [e19] at hf; dsimp only at hf
            refine r_callsn rfl xsX11_fieldOf (List.mem_of_getElem? (i := 10) rfl) (kf_t_fieldOf (d := d) L15 e19) rfl rfl (by omega) (by decide) (Nat.le_of_ble_eq_true rfl) ?_
            rintro _ _ ⟨⟨rfl, rfl⟩, L20⟩
            rcases qo22 : r18.1 with _ | b21
            · rw [qo22] at hf; cases hf
            rw [qo22] at hf; dsimp only at hf; try rw [qo22]
            rcases e24 : f_r_locateField a0 b21 r18.2 with _ | r23
            · rw [e24] at hf; cases hf
            rw [e24] at hf; dsimp only at hf
            refine r_callv rfl xvX8_locateField xm8_125 (kf_r_locateField (d := d) L20 e24) (LY.lt L20 (by decide)) (LY.k1255 L20) (by decide) rfl rfl (by omega) (by decide) (Nat.le_of_ble_eq_true rfl) ?_
            rintro _ _ ⟨⟨rfl, rfl⟩, L25⟩
            by_cases qk26 : r23.1 = 0 ∨ r23.1 = 1
            rotate_left
            · rw [if_neg qk26] at hf; cases hf
            rw [if_pos qk26] at hf
            cases hf
            exact XR.retz rfl rfl qk26 (fun hret => ⟨_, hret, ⟨rfl, rfl⟩, L25⟩)
          · rw [if_neg qc12] at hf
            refine XS.go (s_aloadn rfl rfl rfl) ?_
            refine XS.go (s_aloadn rfl rfl rfl) ?_
            refine XS.go (s_getr rfl xf8_25 (LY.lt L8 (by decide)) (LY.k1255 L8) (by decide) rfl (LY.r1255_3 L8)) ?_
            refine XS.go (s_aloadn rfl rfl rfl) ?_
            refine XS.go (s_getie rfl xf8_31 (LY.lt L8 (by decide)) (LY.k1255 L8) (by decide) rfl rfl) ?_
            refine XS.go (s_ialde rfl (LY.lt L8 (by decide)) (LY.k1260 L8) (inLit (LY.n1260 L8) qk10.1 qk10.2 (by decide)) rfl) ?_
            refine XS.go (s_aloadn rfl rfl rfl) ?_
            refine XS.go (s_getr rfl xf8_22 (LY.lt L8 (by decide)) (LY.k1255 L8) (by decide) rfl (LY.r1255_2 L8)) ?_
            refine XS.go (s_aloadn rfl rfl rfl) ?_
            refine XS.go (s_getie rfl xf8_31 (LY.lt L8 (by decide)) (LY.k1255 L8) (by decide) rfl rfl) ?_
            refine XS.go (s_ialde rfl (LY.lt L8 (by decide)) (LY.k1259 L8) (inLit (LY.n1259 L8) qk10.1 qk10.2 (by decide)) rfl) ?_
            by_cases qk27 : a0 < hz r6.2 ∧ hk r6.2 a0 = 9
            rotate_left
            · rw [if_neg qk27] at hf; cases hf
            rw [if_pos qk27] at hf
            rcases e29 : f_s_bytesOf a0 (hi r6.2 1260 (Int32.toNatClampNeg (hi r6.2 1255 5))) (hi r6.2 1259 (Int32.toNatClampNeg (hi r6.2 1255 5))) r6.2 with _ | r28
            · rw [e29] at hf; cases hf
            rw [e29] at hf; dsimp only at hf
            refine r_callv rfl xvX9_bytesOf xm8_117 (kf_s_bytesOf (d := d) L8 e29) qk27.1 qk27.2 (by decide) rfl rfl (by omega) (by decide) (Nat.le_of_ble_eq_true rfl) ?_
            rintro _ _ ⟨⟨rfl, rfl⟩, L30⟩
            refine XS.go (s_istore rfl (Nat.le_of_ble_eq_true rfl)) ?_
            refine XS.go (s_aloadn rfl rfl rfl) ?_
            refine XS.go (s_aloadn rfl rfl rfl) ?_
            refine XS.go (s_getr rfl xf8_25 (LY.lt L30 (by decide)) (LY.k1255 L30) (by decide) rfl (LY.r1255_3 L30)) ?_
            refine XS.go (s_aloadn rfl rfl rfl) ?_
            refine XS.go (s_getie rfl xf8_31 (LY.lt L30 (by decide)) (LY.k1255 L30) (by decide) rfl rfl) ?_
            by_cases qk31 : 0 ≤ (hi r28.2 1255 5) ∧ (hi r28.2 1255 5) < nI 64
            rotate_left
            · rw [if_neg qk31] at hf; cases hf
            rw [if_pos qk31] at hf
            refine XS.go (s_ialde rfl (LY.lt L30 (by decide)) (LY.k1260 L30) (inLit (LY.n1260 L30) qk31.1 qk31.2 (by decide)) rfl) ?_
            refine XS.go (s_aloadn rfl rfl rfl) ?_
            refine XS.go (s_getr rfl xf8_22 (LY.lt L30 (by decide)) (LY.k1255 L30) (by decide) rfl (LY.r1255_2 L30)) ?_
            refine XS.go (s_aloadn rfl rfl rfl) ?_
            refine XS.go (s_getie rfl xf8_31 (LY.lt L30 (by decide)) (LY.k1255 L30) (by decide) rfl rfl) ?_
            refine XS.go (s_ialde rfl (LY.lt L30 (by decide)) (LY.k1259 L30) (inLit (LY.n1259 L30) qk31.1 qk31.2 (by decide)) rfl) ?_
            refine XS.go (s_iconst (v := (-1)) rfl rfl) ?_
            refine XS.go (s_iloadn rfl rfl rfl) ?_
            refine XS.go (s_iloadn rfl rfl rfl) ?_
            refine XS.go (s_iload rfl rfl) ?_
            refine XS.go (s_imul rfl) ?_
            refine XS.go (s_iadd rfl) ?_
            rcases e33 : f_r_found (hi r28.2 1260 (Int32.toNatClampNeg (hi r28.2 1255 5))) (hi r28.2 1259 (Int32.toNatClampNeg (hi r28.2 1255 5))) (-1) (((hi r6.2 1261 (Int32.toNatClampNeg (hi r6.2 1255 5))) + 4) + (a1 * r28.1)) r28.2 with _ | r32
            · rw [e33] at hf; cases hf
            rw [e33] at hf; dsimp only at hf
            refine r_callv rfl xvX8_found xm8_113 (kf_r_found (d := d) L30 e33) (LY.lt L30 (by decide)) (LY.k1255 L30) (by decide) rfl rfl (by omega) (by decide) (Nat.le_of_ble_eq_true rfl) ?_
            rintro _ _ ⟨⟨rfl, rfl⟩, L34⟩
            refine XS.go (s_iconst (v := 1) rfl rfl) ?_
            cases hf
            exact XR.retz rfl rfl (by decide) (fun hret => ⟨_, hret, ⟨rfl, rfl⟩, L34⟩)
        · rw [if_neg qc11] at hf
          refine XS.go (s_aloadn rfl rfl rfl) ?_
          refine XS.go (s_bipush (v := 6) rfl rfl) ?_
          refine XS.go (s_iconst (v := 0) rfl rfl) ?_
          refine XS.go (s_iconst (v := (-1)) rfl rfl) ?_
          refine XS.go (s_iloadn rfl rfl rfl) ?_
          refine XS.go (s_iloadn rfl rfl rfl) ?_
          refine XS.go (s_iadd rfl) ?_
          rcases e36 : f_r_found 6 0 (-1) (((hi r6.2 1261 (Int32.toNatClampNeg (hi r6.2 1255 5))) + 4) + a1) r6.2 with _ | r35
          · rw [e36] at hf; cases hf
          rw [e36] at hf; dsimp only at hf
          refine r_callv rfl xvX8_found xm8_113 (kf_r_found (d := d) L8 e36) (LY.lt L8 (by decide)) (LY.k1255 L8) (by decide) rfl rfl (by omega) (by decide) (Nat.le_of_ble_eq_true rfl) ?_
          rintro _ _ ⟨⟨rfl, rfl⟩, L37⟩
          refine XS.go (s_iconst (v := 1) rfl rfl) ?_
          cases hf
          exact XR.retz rfl rfl (by decide) (fun hret => ⟨_, hret, ⟨rfl, rfl⟩, L37⟩)
      · rw [if_neg qc9] at hf
        refine XS.go (s_iconst (v := 0) rfl rfl) ?_
        cases hf
        exact XR.retz rfl rfl (by decide) (fun hret => ⟨_, hret, ⟨rfl, rfl⟩, L8⟩)
def b_r_isPartReadable_24 (h : XH) : Option (Int32 × XH) := (some (1, h))
set_option maxRecDepth 20000 in
theorem kb_r_isPartReadable_24 {l : Launch} {G : XG} {d : Nat} {h : XH} {r : Int32 × XH} (L0 : LY h) (hf : b_r_isPartReadable_24 h = some r) : XR l G xEX8_isPartReadable d (24, [none], [], h) (fun C => ∃ v, xRet xEX8_isPartReadable C v ∧ (C.2.2.2 = r.2 ∧ v = some (.int r.1)) ∧ LY r.2) := by
  unfold b_r_isPartReadable_24 at hf
  refine XS.go (s_iconst (v := 1) rfl rfl) ?_
  refine XS.go (s_goto (tgt := 29) rfl rfl) ?_
  cases hf
  exact XR.retz rfl rfl (by decide) (fun hret => ⟨_, hret, ⟨rfl, rfl⟩, L0⟩)
def f_r_isPartReadable (h : XH) : Option (Int32 × XH) := (if (hi h 1255 6) = 0 then (b_r_isPartReadable_24 h) else (if (hi h 1255 6) = 6 then (b_r_isPartReadable_24 h) else (if ¬ (hi h 1255 6) = 4 then (some (0, h)) else (b_r_isPartReadable_24 h))))
set_option maxRecDepth 20000 in
theorem kf_r_isPartReadable {l : Launch} {G : XG} {d : Nat} {h : XH} {r : Int32 × XH} (L0 : LY h) (hf : f_r_isPartReadable h = some r) : XC l G xEX8_isPartReadable d [.ref 1255] h (fun v h2 => (h2 = r.2 ∧ v = some (.int r.1)) ∧ LY r.2) := by
  refine XC.virt xvX8_isPartReadable (Nat.le_of_ble_eq_true rfl) ?_
  unfold f_r_isPartReadable at hf
  refine XS.go (s_aloadn rfl rfl rfl) ?_
  refine XS.go (s_getie rfl xf8_35 (LY.lt L0 (by decide)) (LY.k1255 L0) (by decide) rfl rfl) ?_
  refine r_if_eq (tgt := 24) rfl rfl (fun qc1 => ?_) (fun qc1 => ?_)
  · rw [if_pos qc1] at hf
    exact XR.forget (L2 := [none]) trivial (kb_r_isPartReadable_24 L0 hf)
  · rw [if_neg qc1] at hf
    refine XS.go (s_aloadn rfl rfl rfl) ?_
    refine XS.go (s_getie rfl xf8_35 (LY.lt L0 (by decide)) (LY.k1255 L0) (by decide) rfl rfl) ?_
    refine XS.go (s_bipush (v := 6) rfl rfl) ?_
    refine r_icmp_eq (tgt := 24) rfl rfl (fun qc2 => ?_) (fun qc2 => ?_)
    · rw [if_pos qc2] at hf
      exact XR.forget (L2 := [none]) trivial (kb_r_isPartReadable_24 L0 hf)
    · rw [if_neg qc2] at hf
      refine XS.go (s_aloadn rfl rfl rfl) ?_
      refine XS.go (s_getie rfl xf8_35 (LY.lt L0 (by decide)) (LY.k1255 L0) (by decide) rfl rfl) ?_
      refine XS.go (s_iconst (v := 4) rfl rfl) ?_
      refine r_icmp_ne (tgt := 28) rfl rfl (fun qc3 => ?_) (fun qc3 => ?_)
      · rw [if_pos qc3] at hf
        refine XS.go (s_iconst (v := 0) rfl rfl) ?_
        cases hf
        exact XR.retz rfl rfl (by decide) (fun hret => ⟨_, hret, ⟨rfl, rfl⟩, L0⟩)
      · rw [if_neg qc3] at hf
        exact XR.forget (L2 := [none]) trivial (kb_r_isPartReadable_24 L0 hf)
def f_r_partValue (h : XH) : Option (Int64 × XH) := (if ¬ (hi h 1255 6) = 4 then (if ¬ (hi h 1255 8) = (-1) then (if ¬ (hi h 1255 6) = 0 then (match f_b_octet 1256 (hi h 1255 8) h with | none => none | some r4 => (some ((Int32.toInt64 r4.1), r4.2))) else (match f_b_scalar 1256 (hi h 1255 8) (hi h 1255 7) h with | none => none | some r7 => (some (r7.1, r7.2)))) else (some ((hj h 1255 10), h))) else (some ((Int32.toInt64 (hi h 1255 11)), h)))
set_option maxRecDepth 20000 in
theorem kf_r_partValue {l : Launch} {G : XG} {d : Nat} {h : XH} {r : Int64 × XH} (L0 : LY h) (hf : f_r_partValue h = some r) : XC l G xEX8_partValue (d + 3) [.ref 1255] h (fun v h2 => (h2 = r.2 ∧ v = some (.long r.1)) ∧ LY r.2) := by
  refine XC.virt xvX8_partValue (Nat.le_of_ble_eq_true rfl) ?_
  unfold f_r_partValue at hf
  refine XS.go (s_aloadn rfl rfl rfl) ?_
  refine XS.go (s_getie rfl xf8_35 (LY.lt L0 (by decide)) (LY.k1255 L0) (by decide) rfl rfl) ?_
  refine XS.go (s_iconst (v := 4) rfl rfl) ?_
  refine r_icmp_ne (tgt := 14) rfl rfl (fun qc1 => ?_) (fun qc1 => ?_)
  · rw [if_pos qc1] at hf
    refine XS.go (s_aloadn rfl rfl rfl) ?_
    refine XS.go (s_getie rfl xf8_41 (LY.lt L0 (by decide)) (LY.k1255 L0) (by decide) rfl rfl) ?_
    refine XS.go (s_iconst (v := (-1)) rfl rfl) ?_
    refine r_icmp_ne (tgt := 27) rfl rfl (fun qc2 => ?_) (fun qc2 => ?_)
    · rw [if_pos qc2] at hf
      refine XS.go (s_aloadn rfl rfl rfl) ?_
      refine XS.go (s_getie rfl xf8_35 (LY.lt L0 (by decide)) (LY.k1255 L0) (by decide) rfl rfl) ?_
      refine r_if_ne (tgt := 52) rfl rfl (fun qc3 => ?_) (fun qc3 => ?_)
      · rw [if_pos qc3] at hf
        refine XS.go (s_aloadn rfl rfl rfl) ?_
        refine XS.go (s_getr rfl xf8_12 (LY.lt L0 (by decide)) (LY.k1255 L0) (by decide) rfl (LY.r1255_0 L0)) ?_
        refine XS.go (s_aloadn rfl rfl rfl) ?_
        refine XS.go (s_getie rfl xf8_41 (LY.lt L0 (by decide)) (LY.k1255 L0) (by decide) rfl rfl) ?_
        rcases e5 : f_b_octet 1256 (hi h 1255 8) h with _ | r4
        · rw [e5] at hf; cases hf
        rw [e5] at hf; dsimp only at hf
        refine r_callv rfl xvX1_octet xm8_155 (kf_b_octet (d := d) L0 e5) (LY.lt L0 (by decide)) (LY.k1256 L0) (by decide) rfl rfl (by omega) (by decide) (Nat.le_of_ble_eq_true rfl) ?_
        rintro _ _ ⟨⟨rfl, rfl⟩, L6⟩
        refine XS.go (s_i2l rfl) ?_
        cases hf
        exact XR.retl rfl rfl (fun hret => ⟨_, hret, ⟨rfl, rfl⟩, L6⟩)
      · rw [if_neg qc3] at hf
        refine XS.go (s_aloadn rfl rfl rfl) ?_
        refine XS.go (s_getr rfl xf8_12 (LY.lt L0 (by decide)) (LY.k1255 L0) (by decide) rfl (LY.r1255_0 L0)) ?_
        refine XS.go (s_aloadn rfl rfl rfl) ?_
        refine XS.go (s_getie rfl xf8_41 (LY.lt L0 (by decide)) (LY.k1255 L0) (by decide) rfl rfl) ?_
        refine XS.go (s_aloadn rfl rfl rfl) ?_
        refine XS.go (s_getie rfl xf8_38 (LY.lt L0 (by decide)) (LY.k1255 L0) (by decide) rfl rfl) ?_
        rcases e8 : f_b_scalar 1256 (hi h 1255 8) (hi h 1255 7) h with _ | r7
        · rw [e8] at hf; cases hf
        rw [e8] at hf; dsimp only at hf
        refine r_callv rfl xvX1_scalar xm8_158 (kf_b_scalar (d := d) L0 e8) (LY.lt L0 (by decide)) (LY.k1256 L0) (by decide) rfl rfl (by omega) (by decide) (Nat.le_of_ble_eq_true rfl) ?_
        rintro _ _ ⟨⟨rfl, rfl⟩, L9⟩
        refine XS.go (s_goto (tgt := 64) rfl rfl) ?_
        cases hf
        exact XR.retl rfl rfl (fun hret => ⟨_, hret, ⟨rfl, rfl⟩, L9⟩)
    · rw [if_neg qc2] at hf
      refine XS.go (s_aloadn rfl rfl rfl) ?_
      refine XS.go (s_getje rfl xf8_47 (LY.lt L0 (by decide)) (LY.k1255 L0) (by decide) rfl rfl) ?_
      cases hf
      exact XR.retl rfl rfl (fun hret => ⟨_, hret, ⟨rfl, rfl⟩, L0⟩)
  · rw [if_neg qc1] at hf
    refine XS.go (s_aloadn rfl rfl rfl) ?_
    refine XS.go (s_getie rfl xf8_51 (LY.lt L0 (by decide)) (LY.k1255 L0) (by decide) rfl rfl) ?_
    refine XS.go (s_i2l rfl) ?_
    cases hf
    exact XR.retl rfl rfl (fun hret => ⟨_, hret, ⟨rfl, rfl⟩, L0⟩)
def b_r_enterPart_40 (h : XH) : Option (Int32 × XH) := (match f_b_behind 1256 (hi h 1255 8) h with | none => none | some r1 => (match f_r_enter (hi h 1255 6) (hi h 1255 7) (hi h 1255 9) r1.1 r1.2 with | none => none | some r4 => (some (r4.1, r4.2))))
set_option maxRecDepth 20000 in
theorem kb_r_enterPart_40 {l : Launch} {G : XG} {d : Nat} {h : XH} {r : Int32 × XH} (L0 : LY h) (hf : b_r_enterPart_40 h = some r) : XR l G xEX8_enterPart (d + 3) (40, [some (.ref 1255)], [], h) (fun C => ∃ v, xRet xEX8_enterPart C v ∧ (C.2.2.2 = r.2 ∧ v = some (.int r.1)) ∧ LY r.2) := by
  unfold b_r_enterPart_40 at hf
  refine XS.go (s_aloadn rfl rfl rfl) ?_
  refine XS.go (s_aloadn rfl rfl rfl) ?_
  refine XS.go (s_getie rfl xf8_35 (LY.lt L0 (by decide)) (LY.k1255 L0) (by decide) rfl rfl) ?_
  refine XS.go (s_aloadn rfl rfl rfl) ?_
  refine XS.go (s_getie rfl xf8_38 (LY.lt L0 (by decide)) (LY.k1255 L0) (by decide) rfl rfl) ?_
  refine XS.go (s_aloadn rfl rfl rfl) ?_
  refine XS.go (s_getie rfl xf8_44 (LY.lt L0 (by decide)) (LY.k1255 L0) (by decide) rfl rfl) ?_
  refine XS.go (s_aloadn rfl rfl rfl) ?_
  refine XS.go (s_getr rfl xf8_12 (LY.lt L0 (by decide)) (LY.k1255 L0) (by decide) rfl (LY.r1255_0 L0)) ?_
  refine XS.go (s_aloadn rfl rfl rfl) ?_
  refine XS.go (s_getie rfl xf8_41 (LY.lt L0 (by decide)) (LY.k1255 L0) (by decide) rfl rfl) ?_
  rcases e2 : f_b_behind 1256 (hi h 1255 8) h with _ | r1
  · rw [e2] at hf; cases hf
  rw [e2] at hf; dsimp only at hf
  refine r_callv rfl xvX1_behind xm8_65 (kf_b_behind (d := d) L0 e2) (LY.lt L0 (by decide)) (LY.k1256 L0) (by decide) rfl rfl (by omega) (by decide) (Nat.le_of_ble_eq_true rfl) ?_
  rintro _ _ ⟨⟨rfl, rfl⟩, L3⟩
  rcases e5 : f_r_enter (hi h 1255 6) (hi h 1255 7) (hi h 1255 9) r1.1 r1.2 with _ | r4
  · rw [e5] at hf; cases hf
  rw [e5] at hf; dsimp only at hf
  refine r_callv rfl xvX8_enter xm8_69 (kf_r_enter (d := d) L3 e5) (LY.lt L3 (by decide)) (LY.k1255 L3) (by decide) rfl rfl (by omega) (by decide) (Nat.le_of_ble_eq_true rfl) ?_
  rintro _ _ ⟨⟨rfl, rfl⟩, L6⟩
  cases hf
  exact XR.reti rfl rfl (fun hret => ⟨_, hret, ⟨rfl, rfl⟩, L6⟩)
def f_r_enterPart (h : XH) : Option (Int32 × XH) := (if (hi h 1255 6) = 1 then (b_r_enterPart_40 h) else (if (hi h 1255 6) = 2 then (match f_r_enter 2 (hi h 1255 7) (-1) (hi h 1255 8) h with | none => none | some r8 => (some (r8.1, r8.2))) else (if (hi h 1255 6) = 3 then (b_r_enterPart_40 h) else (if (hi h 1255 6) = 4 then (match f_b_behind 1256 (hi h 1255 8) h with | none => none | some r11 => (match f_r_enter 3 (hi h 1255 7) (-1) r11.1 r11.2 with | none => none | some r14 => (some (r14.1, r14.2)))) else (if (hi h 1255 6) = 5 then (b_r_enterPart_40 h) else (some ((-1), h)))))))
set_option maxRecDepth 20000 in
theorem kf_r_enterPart {l : Launch} {G : XG} {d : Nat} {h : XH} {r : Int32 × XH} (L0 : LY h) (hf : f_r_enterPart h = some r) : XC l G xEX8_enterPart (d + 3) [.ref 1255] h (fun v h2 => (h2 = r.2 ∧ v = some (.int r.1)) ∧ LY r.2) := by
  refine XC.virt xvX8_enterPart (Nat.le_of_ble_eq_true rfl) ?_
  unfold f_r_enterPart at hf
  refine XS.go (s_aloadn rfl rfl rfl) ?_
  refine XS.go (s_getie rfl xf8_35 (LY.lt L0 (by decide)) (LY.k1255 L0) (by decide) rfl rfl) ?_
  by_cases qs7_0 : (hi h 1255 6) = 1
  · rw [if_pos qs7_0] at hf
    refine XS.go (s_tswI (tgt := 40) rfl (by rw [qs7_0]; decide) (by rw [qs7_0]; decide) (by rw [qs7_0]; rfl) rfl) ?_
    exact XR.forget (L2 := [some (.ref 1255)]) ⟨rfl, trivial⟩ (kb_r_enterPart_40 L0 hf)
  rw [if_neg qs7_0] at hf
  by_cases qs7_1 : (hi h 1255 6) = 2
  · rw [if_pos qs7_1] at hf
    refine XS.go (s_tswI (tgt := 90) rfl (by rw [qs7_1]; decide) (by rw [qs7_1]; decide) (by rw [qs7_1]; rfl) rfl) ?_
    refine XS.go (s_aloadn rfl rfl rfl) ?_
    refine XS.go (s_iconst (v := 2) rfl rfl) ?_
    refine XS.go (s_aloadn rfl rfl rfl) ?_
    refine XS.go (s_getie rfl xf8_38 (LY.lt L0 (by decide)) (LY.k1255 L0) (by decide) rfl rfl) ?_
    refine XS.go (s_iconst (v := (-1)) rfl rfl) ?_
    refine XS.go (s_aloadn rfl rfl rfl) ?_
    refine XS.go (s_getie rfl xf8_41 (LY.lt L0 (by decide)) (LY.k1255 L0) (by decide) rfl rfl) ?_
    rcases e9 : f_r_enter 2 (hi h 1255 7) (-1) (hi h 1255 8) h with _ | r8
    · rw [e9] at hf; cases hf
    rw [e9] at hf; dsimp only at hf
    refine r_callv rfl xvX8_enter xm8_69 (kf_r_enter (d := d) L0 e9) (LY.lt L0 (by decide)) (LY.k1255 L0) (by decide) rfl rfl (by omega) (by decide) (Nat.le_of_ble_eq_true rfl) ?_
    rintro _ _ ⟨⟨rfl, rfl⟩, L10⟩
    cases hf
    exact XR.reti rfl rfl (fun hret => ⟨_, hret, ⟨rfl, rfl⟩, L10⟩)
  rw [if_neg qs7_1] at hf
  by_cases qs7_2 : (hi h 1255 6) = 3
  · rw [if_pos qs7_2] at hf
    refine XS.go (s_tswI (tgt := 40) rfl (by rw [qs7_2]; decide) (by rw [qs7_2]; decide) (by rw [qs7_2]; rfl) rfl) ?_
    exact XR.forget (L2 := [some (.ref 1255)]) ⟨rfl, trivial⟩ (kb_r_enterPart_40 L0 hf)
  rw [if_neg qs7_2] at hf
  by_cases qs7_3 : (hi h 1255 6) = 4
  · rw [if_pos qs7_3] at hf
    refine XS.go (s_tswI (tgt := 68) rfl (by rw [qs7_3]; decide) (by rw [qs7_3]; decide) (by rw [qs7_3]; rfl) rfl) ?_
    refine XS.go (s_aloadn rfl rfl rfl) ?_
    refine XS.go (s_iconst (v := 3) rfl rfl) ?_
    refine XS.go (s_aloadn rfl rfl rfl) ?_
    refine XS.go (s_getie rfl xf8_38 (LY.lt L0 (by decide)) (LY.k1255 L0) (by decide) rfl rfl) ?_
    refine XS.go (s_iconst (v := (-1)) rfl rfl) ?_
    refine XS.go (s_aloadn rfl rfl rfl) ?_
    refine XS.go (s_getr rfl xf8_12 (LY.lt L0 (by decide)) (LY.k1255 L0) (by decide) rfl (LY.r1255_0 L0)) ?_
    refine XS.go (s_aloadn rfl rfl rfl) ?_
    refine XS.go (s_getie rfl xf8_41 (LY.lt L0 (by decide)) (LY.k1255 L0) (by decide) rfl rfl) ?_
    rcases e12 : f_b_behind 1256 (hi h 1255 8) h with _ | r11
    · rw [e12] at hf; cases hf
    rw [e12] at hf; dsimp only at hf
    refine r_callv rfl xvX1_behind xm8_65 (kf_b_behind (d := d) L0 e12) (LY.lt L0 (by decide)) (LY.k1256 L0) (by decide) rfl rfl (by omega) (by decide) (Nat.le_of_ble_eq_true rfl) ?_
    rintro _ _ ⟨⟨rfl, rfl⟩, L13⟩
    rcases e15 : f_r_enter 3 (hi h 1255 7) (-1) r11.1 r11.2 with _ | r14
    · rw [e15] at hf; cases hf
    rw [e15] at hf; dsimp only at hf
    refine r_callv rfl xvX8_enter xm8_69 (kf_r_enter (d := d) L13 e15) (LY.lt L13 (by decide)) (LY.k1255 L13) (by decide) rfl rfl (by omega) (by decide) (Nat.le_of_ble_eq_true rfl) ?_
    rintro _ _ ⟨⟨rfl, rfl⟩, L16⟩
    cases hf
    exact XR.reti rfl rfl (fun hret => ⟨_, hret, ⟨rfl, rfl⟩, L16⟩)
  rw [if_neg qs7_3] at hf
  by_cases qs7_4 : (hi h 1255 6) = 5
  · rw [if_pos qs7_4] at hf
    refine XS.go (s_tswI (tgt := 40) rfl (by rw [qs7_4]; decide) (by rw [qs7_4]; decide) (by rw [qs7_4]; rfl) rfl) ?_
    exact XR.forget (L2 := [some (.ref 1255)]) ⟨rfl, trivial⟩ (kb_r_enterPart_40 L0 hf)
  rw [if_neg qs7_4] at hf
  have qs7_o : ((hi h 1255 6)).toInt < 1 ∨ 5 < ((hi h 1255 6)).toInt := by
    refine tsw_out 1 5 (by decide) ?_
    intro k h1 h2
    have z : k = 1 ∨ k = 2 ∨ k = 3 ∨ k = 4 ∨ k = 5 := by omega
    rcases z with rfl | rfl | rfl | rfl | rfl
    · exact qs7_0
    · exact qs7_1
    · exact qs7_2
    · exact qs7_3
    · exact qs7_4
  refine XS.go (s_tswO (tgt := 105) rfl qs7_o rfl) ?_
  refine XS.go (s_iconst (v := (-1)) rfl rfl) ?_
  cases hf
  exact XR.reti rfl rfl (fun hret => ⟨_, hret, ⟨rfl, rfl⟩, L0⟩)
def f_w_add (t : Nat) (a0 : Int64) (h : XH) : Option (Int32 × XH) := (if t < hz h ∧ hk h t = 10 then (if (hi h t 1) < 0 then (some ((-1), h)) else (match hr h t 0 with | none => none | some b3 => (if b3 < hz h ∧ hk h b3 = 101 then (if (hi h t 1) < (nI (hn h b3)) then (if 0 ≤ (hi h t 1) ∧ (hi h t 1) < nI (hn h b3) ∧ (hn h b3) < 2 ^ 31 then (some (((hi h t 1) + 1), (hsi (hsj h b3 (Int32.toNatClampNeg (hi h t 1)) a0) t 1 ((hi h t 1) + 1)))) else none) else (some ((-1), h))) else none))) else none)
set_option maxRecDepth 20000 in
theorem kf_w_add {l : Launch} {G : XG} {d : Nat} {t : Nat} {a0 : Int64} {h : XH} {r : Int32 × XH} (L0 : LY h) (hf : f_w_add t a0 h = some r) : XC l G xEX10_add d [.ref t, .long a0] h (fun v h2 => (h2 = r.2 ∧ v = some (.int r.1)) ∧ LY r.2) := by
  refine XC.virt xvX10_add (Nat.le_of_ble_eq_true rfl) ?_
  unfold f_w_add at hf
  refine XS.go (s_aloadn rfl rfl rfl) ?_
  by_cases qk1 : t < hz h ∧ hk h t = 10
  rotate_left
  · rw [if_neg qk1] at hf; cases hf
  rw [if_pos qk1] at hf
  refine XS.go (s_getie rfl xf10_15 qk1.1 qk1.2 (by decide) rfl rfl) ?_
  refine r_if_lt (tgt := 19) rfl rfl (fun qc2 => ?_) (fun qc2 => ?_)
  · rw [if_pos qc2] at hf
    refine XS.go (s_iconst (v := (-1)) rfl rfl) ?_
    cases hf
    exact XR.reti rfl rfl (fun hret => ⟨_, hret, ⟨rfl, rfl⟩, L0⟩)
  · rw [if_neg qc2] at hf
    refine XS.go (s_aloadn rfl rfl rfl) ?_
    refine XS.go (s_getie rfl xf10_15 qk1.1 qk1.2 (by decide) rfl rfl) ?_
    refine XS.go (s_aloadn rfl rfl rfl) ?_
    rcases qr4 : hr h t 0 with _ | b3
    · rw [qr4] at hf; cases hf
    rw [qr4] at hf; dsimp only at hf
    refine XS.go (s_getr rfl xf10_9 qk1.1 qk1.2 (by decide) rfl qr4) ?_
    by_cases qk5 : b3 < hz h ∧ hk h b3 = 101
    rotate_left
    · rw [if_neg qk5] at hf; cases hf
    rw [if_pos qk5] at hf
    refine XS.go (s_alene rfl qk5.1 qk5.2 rfl (by decide)) ?_
    refine r_icmp_lt (tgt := 21) rfl rfl (fun qc6 => ?_) (fun qc6 => ?_)
    · rw [if_pos qc6] at hf
      refine XS.go (s_aloadn rfl rfl rfl) ?_
      refine XS.go (s_getr rfl xf10_9 qk1.1 qk1.2 (by decide) rfl qr4) ?_
      refine XS.go (s_aloadn rfl rfl rfl) ?_
      refine XS.go (s_getie rfl xf10_15 qk1.1 qk1.2 (by decide) rfl rfl) ?_
      refine XS.go (s_lloadn rfl rfl rfl) ?_
      by_cases qk7 : 0 ≤ (hi h t 1) ∧ (hi h t 1) < nI (hn h b3) ∧ (hn h b3) < 2 ^ 31
      rotate_left
      · rw [if_neg qk7] at hf; cases hf
      rw [if_pos qk7] at hf
      refine XS.go (s_last rfl qk5.1 qk5.2 (inLit (N := hn h b3) rfl qk7.1 qk7.2.1 qk7.2.2)) ?_
      refine XS.go (s_aloadn rfl rfl rfl) ?_
      refine XS.go (s_dup rfl rfl) ?_
      refine XS.go (s_getie rfl xf10_15 (by simp only [hz_hsi, hk_hsi, hz_hsj, hk_hsj]; exact qk1.1) (by simp only [hz_hsi, hk_hsi, hz_hsj, hk_hsj]; exact qk1.2) (by decide) rfl (congrFun hi_hsj _)) ?_
      refine XS.go (s_iconst (v := 1) rfl rfl) ?_
      refine XS.go (s_iadd rfl) ?_
      refine XS.go (s_puti rfl xf10_15 (by simp only [hz_hsi, hk_hsi, hz_hsj, hk_hsj]; exact qk1.1) (by simp only [hz_hsi, hk_hsi, hz_hsj, hk_hsj]; exact qk1.2) (by decide) rfl (Or.inl rfl)) ?_
      refine XS.go (s_aloadn rfl rfl rfl) ?_
      refine XS.go (s_getie rfl xf10_15 (by simp only [hz_hsi, hk_hsi, hz_hsj, hk_hsj]; exact qk1.1) (by simp only [hz_hsi, hk_hsi, hz_hsj, hk_hsj]; exact qk1.2) (by decide) rfl hi_hsi_eq) ?_
      cases hf
      exact XR.reti rfl rfl (fun hret => ⟨_, hret, ⟨rfl, rfl⟩, (by simp only [LY_si, LY_sj]; exact L0)⟩)
    · rw [if_neg qc6] at hf
      refine XS.go (s_iconst (v := (-1)) rfl rfl) ?_
      cases hf
      exact XR.reti rfl rfl (fun hret => ⟨_, hret, ⟨rfl, rfl⟩, L0⟩)
def f_w_takeAll (t : Nat) (h : XH) : Option (Int32 × XH) := (if t < hz h ∧ hk h t = 10 then (some ((hi h t 1), (hsi h t 1 0))) else none)
set_option maxRecDepth 20000 in
theorem kf_w_takeAll {l : Launch} {G : XG} {d : Nat} {t : Nat} {h : XH} {r : Int32 × XH} (L0 : LY h) (hf : f_w_takeAll t h = some r) : XC l G xEX10_takeAll d [.ref t] h (fun v h2 => (h2 = r.2 ∧ v = some (.int r.1)) ∧ LY r.2) := by
  refine XC.virt xvX10_takeAll (Nat.le_of_ble_eq_true rfl) ?_
  unfold f_w_takeAll at hf
  refine XS.go (s_aloadn rfl rfl rfl) ?_
  by_cases qk1 : t < hz h ∧ hk h t = 10
  rotate_left
  · rw [if_neg qk1] at hf; cases hf
  rw [if_pos qk1] at hf
  refine XS.go (s_getie rfl xf10_15 qk1.1 qk1.2 (by decide) rfl rfl) ?_
  refine XS.go (s_istoren rfl rfl (Nat.le_of_ble_eq_true rfl)) ?_
  refine XS.go (s_aloadn rfl rfl rfl) ?_
  refine XS.go (s_iconst (v := 0) rfl rfl) ?_
  refine XS.go (s_puti rfl xf10_15 qk1.1 qk1.2 (by decide) rfl (Or.inl rfl)) ?_
  refine XS.go (s_iloadn rfl rfl rfl) ?_
  cases hf
  exact XR.reti rfl rfl (fun hret => ⟨_, hret, ⟨rfl, rfl⟩, (by simp only [LY_si, LY_sj]; exact L0)⟩)
def s_t_feedOne_3 (K3 : Int32 → Int32 → XH → Option (Unit × XH)) (x1 : Int32) (x2 : Int32) (h : XH) : Option (Unit × XH) := (if x2 < 0 then (some ((), h)) else (match f_b_putOctet 1 (hi h 1 1) (((Int32.toUInt32 x1) >>> ((Int32.toUInt32 x2) &&& Int32.toUInt32 31)).toInt32) h with | none => none | some r2 => (K3 x1 (x2 + (-8)) (hsi r2.2 1 1 ((hi r2.2 1 1) + 1)))))
set_option maxRecDepth 20000 in
theorem ks_t_feedOne_3 {l : Launch} {G : XG} {d : Nat} {K3 : Int32 → Int32 → XH → Option (Unit × XH)} {x1 : Int32} {x2 : Int32} {h : XH} {r : Unit × XH} (hK3 : ∀ (x1 : Int32) (x2 : Int32) (h : XH), LY h → K3 x1 x2 h = some r → XR l G xEX11_feedOne (d + 1) (3, [some (.ref 0), some (.int x1), some (.int x2)], [], h) (fun C => ∃ v, xRet xEX11_feedOne C v ∧ (C.2.2.2 = r.2 ∧ v = none) ∧ LY r.2)) (L0 : LY h) (hf : s_t_feedOne_3 K3 x1 x2 h = some r) : XR l G xEX11_feedOne (d + 1) (3, [some (.ref 0), some (.int x1), some (.int x2)], [], h) (fun C => ∃ v, xRet xEX11_feedOne C v ∧ (C.2.2.2 = r.2 ∧ v = none) ∧ LY r.2) := by
  unfold s_t_feedOne_3 at hf
  refine XS.go (s_iloadn rfl rfl rfl) ?_
  refine r_if_lt (tgt := 43) rfl rfl (fun qc1 => ?_) (fun qc1 => ?_)
  · rw [if_pos qc1] at hf
    cases hf
    exact XR.retv rfl rfl (fun hret => ⟨_, hret, ⟨rfl, rfl⟩, L0⟩)
  · rw [if_neg qc1] at hf
    refine XS.go (s_aloadn rfl rfl rfl) ?_
    refine XS.go (s_getr rfl xf11_10 (LY.lt L0 (by decide)) (LY.k0 L0) (by decide) rfl (LY.r0_0 L0)) ?_
    refine XS.go (s_aloadn rfl rfl rfl) ?_
    refine XS.go (s_getr rfl xf11_10 (LY.lt L0 (by decide)) (LY.k0 L0) (by decide) rfl (LY.r0_0 L0)) ?_
    refine XS.go (s_getie rfl xf11_73 (LY.lt L0 (by decide)) (LY.k1 L0) (by decide) rfl rfl) ?_
    refine XS.go (s_iloadn rfl rfl rfl) ?_
    refine XS.go (s_iloadn rfl rfl rfl) ?_
    refine XS.go (s_iushr rfl) ?_
    rcases e3 : f_b_putOctet 1 (hi h 1 1) (((Int32.toUInt32 x1) >>> ((Int32.toUInt32 x2) &&& Int32.toUInt32 31)).toInt32) h with _ | r2
    · rw [e3] at hf; cases hf
    rw [e3] at hf; dsimp only at hf
    refine r_callv rfl xvX1_putOctet xm11_80 (kf_b_putOctet (d := d) L0 e3) (LY.lt L0 (by decide)) (LY.k1 L0) (by decide) rfl rfl (by omega) (by decide) (Nat.le_of_ble_eq_true rfl) ?_
    rintro _ _ ⟨⟨rfl, rfl⟩, L4⟩
    refine XS.go (s_aloadn rfl rfl rfl) ?_
    refine XS.go (s_getr rfl xf11_10 (LY.lt L4 (by decide)) (LY.k0 L4) (by decide) rfl (LY.r0_0 L4)) ?_
    refine XS.go (s_dup rfl rfl) ?_
    refine XS.go (s_getie rfl xf11_73 (LY.lt L4 (by decide)) (LY.k1 L4) (by decide) rfl rfl) ?_
    refine XS.go (s_iconst (v := 1) rfl rfl) ?_
    refine XS.go (s_iadd rfl) ?_
    refine XS.go (s_puti rfl xf11_73 (LY.lt L4 (by decide)) (LY.k1 L4) (by decide) rfl (Or.inl rfl)) ?_
    refine XS.go (s_iinc (v := x2 + (-8)) rfl rfl rfl (Nat.le_of_ble_eq_true rfl)) ?_
    refine XS.go (s_goto (tgt := 3) rfl rfl) ?_
    exact XR.forget (L2 := [some (.ref 0), some (.int x1), some (.int (x2 + (-8)))]) ⟨rfl, ⟨rfl, ⟨rfl, trivial⟩⟩⟩ (hK3 x1 (x2 + (-8)) _ (by simp only [LY_si, LY_sj]; exact L4) hf)
def b_t_feedOne_3 : Nat → Int32 → Int32 → XH → Option (Unit × XH)
  | 0, _, _, _ => none
  | n + 1, x1, x2, h => s_t_feedOne_3 (b_t_feedOne_3 n) x1 x2 h
theorem kb_t_feedOne_3 {l : Launch} {G : XG} {d : Nat} {n : Nat} {x1 : Int32} {x2 : Int32} {h : XH} {r : Unit × XH} (L0 : LY h) (hf : b_t_feedOne_3 n x1 x2 h = some r) : XR l G xEX11_feedOne (d + 1) (3, [some (.ref 0), some (.int x1), some (.int x2)], [], h) (fun C => ∃ v, xRet xEX11_feedOne C v ∧ (C.2.2.2 = r.2 ∧ v = none) ∧ LY r.2) := by
  induction n generalizing x1 x2 h with
  | zero => cases hf
  | succ n ih => exact ks_t_feedOne_3 (fun x1 x2 h L0 hf => ih (h := h) (x1 := x1) (x2 := x2) L0 hf) L0 hf
def f_t_feedOne (a0 : Int32) (h : XH) : Option (Unit × XH) := (b_t_feedOne_3 100000 a0 24 h)
set_option maxRecDepth 20000 in
theorem kf_t_feedOne {l : Launch} {G : XG} {d : Nat} {a0 : Int32} {h : XH} {r : Unit × XH} (L0 : LY h) (hf : f_t_feedOne a0 h = some r) : XC l G xEX11_feedOne (d + 1) [.ref 0, .int a0] h (fun v h2 => (h2 = r.2 ∧ v = none) ∧ LY r.2) := by
  refine XC.virt xvX11_feedOne (Nat.le_of_ble_eq_true rfl) ?_
  unfold f_t_feedOne at hf
  refine XS.go (s_bipush (v := 24) rfl rfl) ?_
  refine XS.go (s_istoren rfl rfl (Nat.le_of_ble_eq_true rfl)) ?_
  exact XR.forget (L2 := [some (.ref 0), some (.int a0), some (.int 24)]) ⟨rfl, ⟨rfl, ⟨rfl, trivial⟩⟩⟩ (kb_t_feedOne_3 L0 hf)
def f_t_feed (a0 : Int32) (a1 : Int32) (a2 : Int32) (a3 : Int32) (a4 : Int32) (h : XH) : Option (Int32 × XH) := (if ((hi h 1 1) + 20) ≤ 4000 then (match f_t_feedOne a0 h with | none => none | some r2 => (match f_t_feedOne a1 r2.2 with | none => none | some r5 => (match f_t_feedOne a2 r5.2 with | none => none | some r8 => (match f_t_feedOne a3 r8.2 with | none => none | some r11 => (match f_t_feedOne a4 r11.2 with | none => none | some r14 => (some ((hi r14.2 1 1), r14.2))))))) else (some ((-1), h)))
set_option maxRecDepth 20000 in
theorem kf_t_feed {l : Launch} {G : XG} {d : Nat} {a0 : Int32} {a1 : Int32} {a2 : Int32} {a3 : Int32} {a4 : Int32} {h : XH} {r : Int32 × XH} (L0 : LY h) (hf : f_t_feed a0 a1 a2 a3 a4 h = some r) : XC l G xEX11_feed (d + 2) [.ref 0, .int a0, .int a1, .int a2, .int a3, .int a4] h (fun v h2 => (h2 = r.2 ∧ v = some (.int r.1)) ∧ LY r.2) := by
  refine XC.virt xvX11_feed (Nat.le_of_ble_eq_true rfl) ?_
  unfold f_t_feed at hf
  refine XS.go (s_aloadn rfl rfl rfl) ?_
  refine XS.go (s_getr rfl xf11_10 (LY.lt L0 (by decide)) (LY.k0 L0) (by decide) rfl (LY.r0_0 L0)) ?_
  refine XS.go (s_getie rfl xf11_73 (LY.lt L0 (by decide)) (LY.k1 L0) (by decide) rfl rfl) ?_
  refine XS.go (s_bipush (v := 20) rfl rfl) ?_
  refine XS.go (s_iadd rfl) ?_
  refine XS.go (s_sipush (v := 4000) rfl rfl) ?_
  refine r_icmp_le (tgt := 18) rfl rfl (fun qc1 => ?_) (fun qc1 => ?_)
  · rw [if_pos qc1] at hf
    refine XS.go (s_aloadn rfl rfl rfl) ?_
    refine XS.go (s_iloadn rfl rfl rfl) ?_
    rcases e3 : f_t_feedOne a0 h with _ | r2
    · rw [e3] at hf; cases hf
    rw [e3] at hf; dsimp only at hf
    refine r_callv rfl xvX11_feedOne xm11_76 (kf_t_feedOne (d := d) L0 e3) (LY.lt L0 (by decide)) (LY.k0 L0) (by decide) rfl rfl (by omega) (by decide) (Nat.le_of_ble_eq_true rfl) ?_
    rintro _ _ ⟨⟨rfl, rfl⟩, L4⟩
    refine XS.go (s_aloadn rfl rfl rfl) ?_
    refine XS.go (s_iloadn rfl rfl rfl) ?_
    rcases e6 : f_t_feedOne a1 r2.2 with _ | r5
    · rw [e6] at hf; cases hf
    rw [e6] at hf; dsimp only at hf
    refine r_callv rfl xvX11_feedOne xm11_76 (kf_t_feedOne (d := d) L4 e6) (LY.lt L4 (by decide)) (LY.k0 L4) (by decide) rfl rfl (by omega) (by decide) (Nat.le_of_ble_eq_true rfl) ?_
    rintro _ _ ⟨⟨rfl, rfl⟩, L7⟩
    refine XS.go (s_aloadn rfl rfl rfl) ?_
    refine XS.go (s_iloadn rfl rfl rfl) ?_
    rcases e9 : f_t_feedOne a2 r5.2 with _ | r8
    · rw [e9] at hf; cases hf
    rw [e9] at hf; dsimp only at hf
    refine r_callv rfl xvX11_feedOne xm11_76 (kf_t_feedOne (d := d) L7 e9) (LY.lt L7 (by decide)) (LY.k0 L7) (by decide) rfl rfl (by omega) (by decide) (Nat.le_of_ble_eq_true rfl) ?_
    rintro _ _ ⟨⟨rfl, rfl⟩, L10⟩
    refine XS.go (s_aloadn rfl rfl rfl) ?_
    refine XS.go (s_iload rfl rfl) ?_
    rcases e12 : f_t_feedOne a3 r8.2 with _ | r11
    · rw [e12] at hf; cases hf
    rw [e12] at hf; dsimp only at hf
    refine r_callv rfl xvX11_feedOne xm11_76 (kf_t_feedOne (d := d) L10 e12) (LY.lt L10 (by decide)) (LY.k0 L10) (by decide) rfl rfl (by omega) (by decide) (Nat.le_of_ble_eq_true rfl) ?_
    rintro _ _ ⟨⟨rfl, rfl⟩, L13⟩
    refine XS.go (s_aloadn rfl rfl rfl) ?_
    refine XS.go (s_iload rfl rfl) ?_
    rcases e15 : f_t_feedOne a4 r11.2 with _ | r14
    · rw [e15] at hf; cases hf
    rw [e15] at hf; dsimp only at hf
    refine r_callv rfl xvX11_feedOne xm11_76 (kf_t_feedOne (d := d) L13 e15) (LY.lt L13 (by decide)) (LY.k0 L13) (by decide) rfl rfl (by omega) (by decide) (Nat.le_of_ble_eq_true rfl) ?_
    rintro _ _ ⟨⟨rfl, rfl⟩, L16⟩
    refine XS.go (s_aloadn rfl rfl rfl) ?_
    refine XS.go (s_getr rfl xf11_10 (LY.lt L16 (by decide)) (LY.k0 L16) (by decide) rfl (LY.r0_0 L16)) ?_
    refine XS.go (s_getie rfl xf11_73 (LY.lt L16 (by decide)) (LY.k1 L16) (by decide) rfl rfl) ?_
    cases hf
    exact XR.reti rfl rfl (fun hret => ⟨_, hret, ⟨rfl, rfl⟩, L16⟩)
  · rw [if_neg qc1] at hf
    refine XS.go (s_iconst (v := (-1)) rfl rfl) ?_
    cases hf
    exact XR.reti rfl rfl (fun hret => ⟨_, hret, ⟨rfl, rfl⟩, L0⟩)
def f_t_end (a0 : Int32) (h : XH) : Option (Int32 × XH) := (if a0 < 0 then (some (0, h)) else (if a0 ≤ (hi h 1 1) then (some (1, (hsi h 1 1 a0))) else (some (0, h))))
set_option maxRecDepth 20000 in
theorem kf_t_end {l : Launch} {G : XG} {d : Nat} {a0 : Int32} {h : XH} {r : Int32 × XH} (L0 : LY h) (hf : f_t_end a0 h = some r) : XC l G xEX11_end d [.ref 0, .int a0] h (fun v h2 => (h2 = r.2 ∧ v = some (.int r.1)) ∧ LY r.2) := by
  refine XC.virt xvX11_end (Nat.le_of_ble_eq_true rfl) ?_
  unfold f_t_end at hf
  refine XS.go (s_iloadn rfl rfl rfl) ?_
  refine r_if_lt (tgt := 15) rfl rfl (fun qc1 => ?_) (fun qc1 => ?_)
  · rw [if_pos qc1] at hf
    refine XS.go (s_iconst (v := 0) rfl rfl) ?_
    cases hf
    exact XR.retz rfl rfl (by decide) (fun hret => ⟨_, hret, ⟨rfl, rfl⟩, L0⟩)
  · rw [if_neg qc1] at hf
    refine XS.go (s_iloadn rfl rfl rfl) ?_
    refine XS.go (s_aloadn rfl rfl rfl) ?_
    refine XS.go (s_getr rfl xf11_10 (LY.lt L0 (by decide)) (LY.k0 L0) (by decide) rfl (LY.r0_0 L0)) ?_
    refine XS.go (s_getie rfl xf11_73 (LY.lt L0 (by decide)) (LY.k1 L0) (by decide) rfl rfl) ?_
    refine r_icmp_le (tgt := 17) rfl rfl (fun qc2 => ?_) (fun qc2 => ?_)
    · rw [if_pos qc2] at hf
      refine XS.go (s_aloadn rfl rfl rfl) ?_
      refine XS.go (s_getr rfl xf11_10 (LY.lt L0 (by decide)) (LY.k0 L0) (by decide) rfl (LY.r0_0 L0)) ?_
      refine XS.go (s_iloadn rfl rfl rfl) ?_
      refine XS.go (s_puti rfl xf11_73 (LY.lt L0 (by decide)) (LY.k1 L0) (by decide) rfl (Or.inl rfl)) ?_
      refine XS.go (s_iconst (v := 1) rfl rfl) ?_
      cases hf
      exact XR.retz rfl rfl (by decide) (fun hret => ⟨_, hret, ⟨rfl, rfl⟩, (by simp only [LY_si, LY_sj]; exact L0)⟩)
    · rw [if_neg qc2] at hf
      refine XS.go (s_iconst (v := 0) rfl rfl) ?_
      cases hf
      exact XR.retz rfl rfl (by decide) (fun hret => ⟨_, hret, ⟨rfl, rfl⟩, L0⟩)
def f_t_fault (a0 : Int32) (h : XH) : Option (Int32 × XH) := (if a0 = 0 then (some ((hi h 0 8), h)) else (if a0 = 1 then (some ((hi h 0 9), h)) else (if a0 = 2 then (some ((hi h 0 10), h)) else (if a0 = 3 then (some ((hi h 0 11), h)) else (some ((-1), h))))))
set_option maxRecDepth 20000 in
theorem kf_t_fault {l : Launch} {G : XG} {d : Nat} {a0 : Int32} {h : XH} {r : Int32 × XH} (L0 : LY h) (hf : f_t_fault a0 h = some r) : XC l G xEX11_fault d [.ref 0, .int a0] h (fun v h2 => (h2 = r.2 ∧ v = some (.int r.1)) ∧ LY r.2) := by
  refine XC.virt xvX11_fault (Nat.le_of_ble_eq_true rfl) ?_
  unfold f_t_fault at hf
  refine XS.go (s_iloadn rfl rfl rfl) ?_
  by_cases qs1_0 : a0 = 0
  · rw [if_pos qs1_0] at hf
    refine XS.go (s_tswI (tgt := 32) rfl (by rw [qs1_0]; decide) (by rw [qs1_0]; decide) (by rw [qs1_0]; rfl) rfl) ?_
    refine XS.go (s_aloadn rfl rfl rfl) ?_
    refine XS.go (s_getie rfl xf11_57 (LY.lt L0 (by decide)) (LY.k0 L0) (by decide) rfl rfl) ?_
    cases hf
    exact XR.reti rfl rfl (fun hret => ⟨_, hret, ⟨rfl, rfl⟩, L0⟩)
  rw [if_neg qs1_0] at hf
  by_cases qs1_1 : a0 = 1
  · rw [if_pos qs1_1] at hf
    refine XS.go (s_tswI (tgt := 37) rfl (by rw [qs1_1]; decide) (by rw [qs1_1]; decide) (by rw [qs1_1]; rfl) rfl) ?_
    refine XS.go (s_aloadn rfl rfl rfl) ?_
    refine XS.go (s_getie rfl xf11_61 (LY.lt L0 (by decide)) (LY.k0 L0) (by decide) rfl rfl) ?_
    cases hf
    exact XR.reti rfl rfl (fun hret => ⟨_, hret, ⟨rfl, rfl⟩, L0⟩)
  rw [if_neg qs1_1] at hf
  by_cases qs1_2 : a0 = 2
  · rw [if_pos qs1_2] at hf
    refine XS.go (s_tswI (tgt := 42) rfl (by rw [qs1_2]; decide) (by rw [qs1_2]; decide) (by rw [qs1_2]; rfl) rfl) ?_
    refine XS.go (s_aloadn rfl rfl rfl) ?_
    refine XS.go (s_getie rfl xf11_64 (LY.lt L0 (by decide)) (LY.k0 L0) (by decide) rfl rfl) ?_
    cases hf
    exact XR.reti rfl rfl (fun hret => ⟨_, hret, ⟨rfl, rfl⟩, L0⟩)
  rw [if_neg qs1_2] at hf
  by_cases qs1_3 : a0 = 3
  · rw [if_pos qs1_3] at hf
    refine XS.go (s_tswI (tgt := 47) rfl (by rw [qs1_3]; decide) (by rw [qs1_3]; decide) (by rw [qs1_3]; rfl) rfl) ?_
    refine XS.go (s_aloadn rfl rfl rfl) ?_
    refine XS.go (s_getie rfl xf11_67 (LY.lt L0 (by decide)) (LY.k0 L0) (by decide) rfl rfl) ?_
    cases hf
    exact XR.reti rfl rfl (fun hret => ⟨_, hret, ⟨rfl, rfl⟩, L0⟩)
  rw [if_neg qs1_3] at hf
  have qs1_o : (a0).toInt < 0 ∨ 3 < (a0).toInt := by
    refine tsw_out 0 3 (by decide) ?_
    intro k h1 h2
    have z : k = 0 ∨ k = 1 ∨ k = 2 ∨ k = 3 := by omega
    rcases z with rfl | rfl | rfl | rfl
    · exact qs1_0
    · exact qs1_1
    · exact qs1_2
    · exact qs1_3
  refine XS.go (s_tswO (tgt := 52) rfl qs1_o rfl) ?_
  refine XS.go (s_iconst (v := (-1)) rfl rfl) ?_
  cases hf
  exact XR.reti rfl rfl (fun hret => ⟨_, hret, ⟨rfl, rfl⟩, L0⟩)
def f_t_memberCount (a0 : Nat) (h : XH) : Option (Int32 × XH) := (if a0 < hz h ∧ hk h a0 = 2 then (some ((hi h a0 3), h)) else none)
set_option maxRecDepth 20000 in
theorem kf_t_memberCount {l : Launch} {G : XG} {d : Nat} {a0 : Nat} {h : XH} {r : Int32 × XH} (L0 : LY h) (hf : f_t_memberCount a0 h = some r) : XC l G xEX11_memberCount d [.ref a0] h (fun v h2 => (h2 = r.2 ∧ v = some (.int r.1)) ∧ LY r.2) := by
  refine XC.stat xsX11_memberCount (Nat.le_of_ble_eq_true rfl) ?_
  unfold f_t_memberCount at hf
  refine XS.go (s_aloadn rfl rfl rfl) ?_
  refine XS.go (s_ifnonnull_r (tgt := 8) rfl rfl) ?_
  refine XS.go (s_aloadn rfl rfl rfl) ?_
  by_cases qk1 : a0 < hz h ∧ hk h a0 = 2
  rotate_left
  · rw [if_neg qk1] at hf; cases hf
  rw [if_pos qk1] at hf
  refine XS.go (s_getie rfl xf11_149 qk1.1 qk1.2 (by decide) rfl rfl) ?_
  cases hf
  exact XR.reti rfl rfl (fun hret => ⟨_, hret, ⟨rfl, rfl⟩, L0⟩)
def f_t_structSize (a0 : Nat) (a1 : Int32) (h : XH) : Option (Int32 × XH) := (if ¬ a1 = 4 then (if ¬ a1 = 5 then (if a0 < hz h ∧ hk h a0 = 2 then (some ((hi h a0 7), h)) else none) else (if a0 < hz h ∧ hk h a0 = 2 then (some ((hi h a0 6), h)) else none)) else (if a0 < hz h ∧ hk h a0 = 2 then (some ((hi h a0 3), h)) else none))
set_option maxRecDepth 20000 in
theorem kf_t_structSize {l : Launch} {G : XG} {d : Nat} {a0 : Nat} {a1 : Int32} {h : XH} {r : Int32 × XH} (L0 : LY h) (hf : f_t_structSize a0 a1 h = some r) : XC l G xEX11_structSize d [.ref a0, .int a1] h (fun v h2 => (h2 = r.2 ∧ v = some (.int r.1)) ∧ LY r.2) := by
  refine XC.stat xsX11_structSize (Nat.le_of_ble_eq_true rfl) ?_
  unfold f_t_structSize at hf
  refine XS.go (s_aloadn rfl rfl rfl) ?_
  refine XS.go (s_ifnonnull_r (tgt := 6) rfl rfl) ?_
  refine XS.go (s_iloadn rfl rfl rfl) ?_
  refine XS.go (s_iconst (v := 4) rfl rfl) ?_
  refine r_icmp_ne (tgt := 16) rfl rfl (fun qc1 => ?_) (fun qc1 => ?_)
  · rw [if_pos qc1] at hf
    refine XS.go (s_iloadn rfl rfl rfl) ?_
    refine XS.go (s_iconst (v := 5) rfl rfl) ?_
    refine r_icmp_ne (tgt := 28) rfl rfl (fun qc2 => ?_) (fun qc2 => ?_)
    · rw [if_pos qc2] at hf
      refine XS.go (s_aloadn rfl rfl rfl) ?_
      by_cases qk3 : a0 < hz h ∧ hk h a0 = 2
      rotate_left
      · rw [if_neg qk3] at hf; cases hf
      rw [if_pos qk3] at hf
      refine XS.go (s_getie rfl xf11_157 qk3.1 qk3.2 (by decide) rfl rfl) ?_
      cases hf
      exact XR.reti rfl rfl (fun hret => ⟨_, hret, ⟨rfl, rfl⟩, L0⟩)
    · rw [if_neg qc2] at hf
      refine XS.go (s_aloadn rfl rfl rfl) ?_
      by_cases qk4 : a0 < hz h ∧ hk h a0 = 2
      rotate_left
      · rw [if_neg qk4] at hf; cases hf
      rw [if_pos qk4] at hf
      refine XS.go (s_getie rfl xf11_154 qk4.1 qk4.2 (by decide) rfl rfl) ?_
      refine XS.go (s_goto (tgt := 32) rfl rfl) ?_
      cases hf
      exact XR.reti rfl rfl (fun hret => ⟨_, hret, ⟨rfl, rfl⟩, L0⟩)
  · rw [if_neg qc1] at hf
    refine XS.go (s_aloadn rfl rfl rfl) ?_
    by_cases qk5 : a0 < hz h ∧ hk h a0 = 2
    rotate_left
    · rw [if_neg qk5] at hf; cases hf
    rw [if_pos qk5] at hf
    refine XS.go (s_getie rfl xf11_149 qk5.1 qk5.2 (by decide) rfl rfl) ?_
    cases hf
    exact XR.reti rfl rfl (fun hret => ⟨_, hret, ⟨rfl, rfl⟩, L0⟩)
def f_t_tableSize (a0 : Nat) (a1 : Int32) (h : XH) : Option (Int32 × XH) := (if ¬ a1 = 7 then (if a0 < hz h ∧ hk h a0 = 2 then (some ((hi h a0 8), h)) else none) else (if a0 < hz h ∧ hk h a0 = 2 then (some ((hi h a0 3), h)) else none))
set_option maxRecDepth 20000 in
theorem kf_t_tableSize {l : Launch} {G : XG} {d : Nat} {a0 : Nat} {a1 : Int32} {h : XH} {r : Int32 × XH} (L0 : LY h) (hf : f_t_tableSize a0 a1 h = some r) : XC l G xEX11_tableSize d [.ref a0, .int a1] h (fun v h2 => (h2 = r.2 ∧ v = some (.int r.1)) ∧ LY r.2) := by
  refine XC.stat xsX11_tableSize (Nat.le_of_ble_eq_true rfl) ?_
  unfold f_t_tableSize at hf
  refine XS.go (s_aloadn rfl rfl rfl) ?_
  refine XS.go (s_ifnonnull_r (tgt := 6) rfl rfl) ?_
  refine XS.go (s_iloadn rfl rfl rfl) ?_
  refine XS.go (s_bipush (v := 7) rfl rfl) ?_
  refine r_icmp_ne (tgt := 19) rfl rfl (fun qc1 => ?_) (fun qc1 => ?_)
  · rw [if_pos qc1] at hf
    refine XS.go (s_aloadn rfl rfl rfl) ?_
    by_cases qk2 : a0 < hz h ∧ hk h a0 = 2
    rotate_left
    · rw [if_neg qk2] at hf; cases hf
    rw [if_pos qk2] at hf
    refine XS.go (s_getie rfl xf11_160 qk2.1 qk2.2 (by decide) rfl rfl) ?_
    cases hf
    exact XR.reti rfl rfl (fun hret => ⟨_, hret, ⟨rfl, rfl⟩, L0⟩)
  · rw [if_neg qc1] at hf
    refine XS.go (s_aloadn rfl rfl rfl) ?_
    by_cases qk3 : a0 < hz h ∧ hk h a0 = 2
    rotate_left
    · rw [if_neg qk3] at hf; cases hf
    rw [if_pos qk3] at hf
    refine XS.go (s_getie rfl xf11_149 qk3.1 qk3.2 (by decide) rfl rfl) ?_
    refine XS.go (s_goto (tgt := 23) rfl rfl) ?_
    cases hf
    exact XR.reti rfl rfl (fun hret => ⟨_, hret, ⟨rfl, rfl⟩, L0⟩)
def b_t_size_113 (x1 : Int32) (x2 : Int32) (h : XH) : Option (Int32 × XH) := (match hr h 0 4 with | none => none | some b1 => (if b1 < hz h ∧ hk h b1 = 9 then (match hr h b1 1 with | none => none | some b4 => (if b4 < hz h ∧ hk h b4 = 4 then (match f_g_at b4 x2 h with | none => none | some r7 => (match r7.1 with | none => none | some b10 => (match f_t_tableSize b10 x1 r7.2 with | none => none | some r12 => (some (r12.1, r12.2))))) else none)) else none))
set_option maxRecDepth 20000 in
theorem kb_t_size_113 {l : Launch} {G : XG} {d : Nat} {x1 : Int32} {x2 : Int32} {h : XH} {r : Int32 × XH} (L0 : LY h) (hf : b_t_size_113 x1 x2 h = some r) : XR l G xEX11_size (d + 1) (113, [some (.ref 0), some (.int x1), some (.int x2)], [], h) (fun C => ∃ v, xRet xEX11_size C v ∧ (C.2.2.2 = r.2 ∧ v = some (.int r.1)) ∧ LY r.2) := by
  unfold b_t_size_113 at hf
  refine XS.go (s_aloadn rfl rfl rfl) ?_
  rcases qr2 : hr h 0 4 with _ | b1
  · rw [qr2] at hf; cases hf
  rw [qr2] at hf; dsimp only at hf
  refine XS.go (s_getr rfl xf11_36 (LY.lt L0 (by decide)) (LY.k0 L0) (by decide) rfl qr2) ?_
  by_cases qk3 : b1 < hz h ∧ hk h b1 = 9
  rotate_left
  · rw [if_neg qk3] at hf; cases hf
  rw [if_pos qk3] at hf
  rcases qr5 : hr h b1 1 with _ | b4
  · rw [qr5] at hf; cases hf
  rw [qr5] at hf; dsimp only at hf
  refine XS.go (s_getr rfl xf11_116 qk3.1 qk3.2 (by decide) rfl qr5) ?_
  refine XS.go (s_iloadn rfl rfl rfl) ?_
  by_cases qk6 : b4 < hz h ∧ hk h b4 = 4
  rotate_left
  · rw [if_neg qk6] at hf; cases hf
  rw [if_pos qk6] at hf
  rcases e8 : f_g_at b4 x2 h with _ | r7
  · rw [e8] at hf; cases hf
  rw [e8] at hf; dsimp only at hf
  refine r_callv rfl xvX4_at xm11_134 (kf_g_at (d := d) L0 e8) qk6.1 qk6.2 (by decide) rfl rfl (by omega) (by decide) (Nat.le_of_ble_eq_true rfl) ?_
  rintro _ _ ⟨⟨rfl, rfl⟩, L9⟩
  refine XS.go (s_iloadn rfl rfl rfl) ?_
  rcases qo11 : r7.1 with _ | b10
  · rw [qo11] at hf; cases hf
  rw [qo11] at hf; dsimp only at hf; try rw [qo11]
  rcases e13 : f_t_tableSize b10 x1 r7.2 with _ | r12
  · rw [e13] at hf; cases hf
  rw [e13] at hf; dsimp only at hf
  refine r_calls rfl xsX11_tableSize xm11_142 (kf_t_tableSize (d := d) L9 e13) rfl rfl (by omega) (by decide) (Nat.le_of_ble_eq_true rfl) ?_
  rintro _ _ ⟨⟨rfl, rfl⟩, L14⟩
  cases hf
  exact XR.reti rfl rfl (fun hret => ⟨_, hret, ⟨rfl, rfl⟩, L14⟩)
def b_t_size_97 (x1 : Int32) (x2 : Int32) (h : XH) : Option (Int32 × XH) := (match hr h 0 4 with | none => none | some b15 => (if b15 < hz h ∧ hk h b15 = 9 then (match hr h b15 0 with | none => none | some b18 => (if b18 < hz h ∧ hk h b18 = 4 then (match f_g_at b18 x2 h with | none => none | some r21 => (match r21.1 with | none => none | some b24 => (match f_t_structSize b24 x1 r21.2 with | none => none | some r26 => (some (r26.1, r26.2))))) else none)) else none))
set_option maxRecDepth 20000 in
theorem kb_t_size_97 {l : Launch} {G : XG} {d : Nat} {x1 : Int32} {x2 : Int32} {h : XH} {r : Int32 × XH} (L0 : LY h) (hf : b_t_size_97 x1 x2 h = some r) : XR l G xEX11_size (d + 1) (97, [some (.ref 0), some (.int x1), some (.int x2)], [], h) (fun C => ∃ v, xRet xEX11_size C v ∧ (C.2.2.2 = r.2 ∧ v = some (.int r.1)) ∧ LY r.2) := by
  unfold b_t_size_97 at hf
  refine XS.go (s_aloadn rfl rfl rfl) ?_
  rcases qr16 : hr h 0 4 with _ | b15
  · rw [qr16] at hf; cases hf
  rw [qr16] at hf; dsimp only at hf
  refine XS.go (s_getr rfl xf11_36 (LY.lt L0 (by decide)) (LY.k0 L0) (by decide) rfl qr16) ?_
  by_cases qk17 : b15 < hz h ∧ hk h b15 = 9
  rotate_left
  · rw [if_neg qk17] at hf; cases hf
  rw [if_pos qk17] at hf
  rcases qr19 : hr h b15 0 with _ | b18
  · rw [qr19] at hf; cases hf
  rw [qr19] at hf; dsimp only at hf
  refine XS.go (s_getr rfl xf11_125 qk17.1 qk17.2 (by decide) rfl qr19) ?_
  refine XS.go (s_iloadn rfl rfl rfl) ?_
  by_cases qk20 : b18 < hz h ∧ hk h b18 = 4
  rotate_left
  · rw [if_neg qk20] at hf; cases hf
  rw [if_pos qk20] at hf
  rcases e22 : f_g_at b18 x2 h with _ | r21
  · rw [e22] at hf; cases hf
  rw [e22] at hf; dsimp only at hf
  refine r_callv rfl xvX4_at xm11_134 (kf_g_at (d := d) L0 e22) qk20.1 qk20.2 (by decide) rfl rfl (by omega) (by decide) (Nat.le_of_ble_eq_true rfl) ?_
  rintro _ _ ⟨⟨rfl, rfl⟩, L23⟩
  refine XS.go (s_iloadn rfl rfl rfl) ?_
  rcases qo25 : r21.1 with _ | b24
  · rw [qo25] at hf; cases hf
  rw [qo25] at hf; dsimp only at hf; try rw [qo25]
  rcases e27 : f_t_structSize b24 x1 r21.2 with _ | r26
  · rw [e27] at hf; cases hf
  rw [e27] at hf; dsimp only at hf
  refine r_calls rfl xsX11_structSize xm11_138 (kf_t_structSize (d := d) L23 e27) rfl rfl (by omega) (by decide) (Nat.le_of_ble_eq_true rfl) ?_
  rintro _ _ ⟨⟨rfl, rfl⟩, L28⟩
  cases hf
  exact XR.reti rfl rfl (fun hret => ⟨_, hret, ⟨rfl, rfl⟩, L28⟩)
def f_t_size (a0 : Int32) (a1 : Int32) (h : XH) : Option (Int32 × XH) := (if a0 = 0 then (match hr h 0 4 with | none => none | some b30 => (if b30 < hz h ∧ hk h b30 = 9 then (match hr h b30 0 with | none => none | some b33 => (if b33 < hz h ∧ hk h b33 = 4 then (some ((hi h b33 1), h)) else none)) else none)) else (if a0 = 1 then (match hr h 0 4 with | none => none | some b36 => (if b36 < hz h ∧ hk h b36 = 9 then (match hr h b36 1 with | none => none | some b39 => (if b39 < hz h ∧ hk h b39 = 4 then (some ((hi h b39 1), h)) else none)) else none)) else (if a0 = 2 then (match hr h 0 4 with | none => none | some b42 => (if b42 < hz h ∧ hk h b42 = 9 then (match hr h b42 2 with | none => none | some b45 => (if b45 < hz h ∧ hk h b45 = 4 then (some ((hi h b45 1), h)) else none)) else none)) else (if a0 = 3 then (match hr h 0 4 with | none => none | some b48 => (if b48 < hz h ∧ hk h b48 = 9 then (some ((hi h b48 5), h)) else none)) else (if a0 = 4 then (b_t_size_97 a0 a1 h) else (if a0 = 5 then (b_t_size_97 a0 a1 h) else (if a0 = 6 then (b_t_size_97 a0 a1 h) else (if a0 = 7 then (b_t_size_113 a0 a1 h) else (if a0 = 8 then (b_t_size_113 a0 a1 h) else (if a0 = 9 then (match hr h 0 4 with | none => none | some b51 => (if b51 < hz h ∧ hk h b51 = 9 then (match hr h b51 2 with | none => none | some b54 => (if b54 < hz h ∧ hk h b54 = 4 then (match f_g_at b54 a1 h with | none => none | some r57 => (match r57.1 with | none => none | some b60 => (match f_t_memberCount b60 r57.2 with | none => none | some r62 => (some (r62.1, r62.2))))) else none)) else none)) else (some ((-1), h))))))))))))
set_option maxRecDepth 20000 in
theorem kf_t_size {l : Launch} {G : XG} {d : Nat} {a0 : Int32} {a1 : Int32} {h : XH} {r : Int32 × XH} (L0 : LY h) (hf : f_t_size a0 a1 h = some r) : XC l G xEX11_size (d + 1) [.ref 0, .int a0, .int a1] h (fun v h2 => (h2 = r.2 ∧ v = some (.int r.1)) ∧ LY r.2) := by
  refine XC.virt xvX11_size (Nat.le_of_ble_eq_true rfl) ?_
  unfold f_t_size at hf
  refine XS.go (s_iloadn rfl rfl rfl) ?_
  by_cases qs29_0 : a0 = 0
  · rw [if_pos qs29_0] at hf
    refine XS.go (s_tswI (tgt := 56) rfl (by rw [qs29_0]; decide) (by rw [qs29_0]; decide) (by rw [qs29_0]; rfl) rfl) ?_
    refine XS.go (s_aloadn rfl rfl rfl) ?_
    rcases qr31 : hr h 0 4 with _ | b30
    · rw [qr31] at hf; cases hf
    rw [qr31] at hf; dsimp only at hf
    refine XS.go (s_getr rfl xf11_36 (LY.lt L0 (by decide)) (LY.k0 L0) (by decide) rfl qr31) ?_
    by_cases qk32 : b30 < hz h ∧ hk h b30 = 9
    rotate_left
    · rw [if_neg qk32] at hf; cases hf
    rw [if_pos qk32] at hf
    rcases qr34 : hr h b30 0 with _ | b33
    · rw [qr34] at hf; cases hf
    rw [qr34] at hf; dsimp only at hf
    refine XS.go (s_getr rfl xf11_125 qk32.1 qk32.2 (by decide) rfl qr34) ?_
    by_cases qk35 : b33 < hz h ∧ hk h b33 = 4
    rotate_left
    · rw [if_neg qk35] at hf; cases hf
    rw [if_pos qk35] at hf
    refine XS.go (s_getie rfl xf11_120 qk35.1 qk35.2 (by decide) rfl rfl) ?_
    cases hf
    exact XR.reti rfl rfl (fun hret => ⟨_, hret, ⟨rfl, rfl⟩, L0⟩)
  rw [if_neg qs29_0] at hf
  by_cases qs29_1 : a0 = 1
  · rw [if_pos qs29_1] at hf
    refine XS.go (s_tswI (tgt := 67) rfl (by rw [qs29_1]; decide) (by rw [qs29_1]; decide) (by rw [qs29_1]; rfl) rfl) ?_
    refine XS.go (s_aloadn rfl rfl rfl) ?_
    rcases qr37 : hr h 0 4 with _ | b36
    · rw [qr37] at hf; cases hf
    rw [qr37] at hf; dsimp only at hf
    refine XS.go (s_getr rfl xf11_36 (LY.lt L0 (by decide)) (LY.k0 L0) (by decide) rfl qr37) ?_
    by_cases qk38 : b36 < hz h ∧ hk h b36 = 9
    rotate_left
    · rw [if_neg qk38] at hf; cases hf
    rw [if_pos qk38] at hf
    rcases qr40 : hr h b36 1 with _ | b39
    · rw [qr40] at hf; cases hf
    rw [qr40] at hf; dsimp only at hf
    refine XS.go (s_getr rfl xf11_116 qk38.1 qk38.2 (by decide) rfl qr40) ?_
    by_cases qk41 : b39 < hz h ∧ hk h b39 = 4
    rotate_left
    · rw [if_neg qk41] at hf; cases hf
    rw [if_pos qk41] at hf
    refine XS.go (s_getie rfl xf11_120 qk41.1 qk41.2 (by decide) rfl rfl) ?_
    cases hf
    exact XR.reti rfl rfl (fun hret => ⟨_, hret, ⟨rfl, rfl⟩, L0⟩)
  rw [if_neg qs29_1] at hf
  by_cases qs29_2 : a0 = 2
  · rw [if_pos qs29_2] at hf
    refine XS.go (s_tswI (tgt := 78) rfl (by rw [qs29_2]; decide) (by rw [qs29_2]; decide) (by rw [qs29_2]; rfl) rfl) ?_
    refine XS.go (s_aloadn rfl rfl rfl) ?_
    rcases qr43 : hr h 0 4 with _ | b42
    · rw [qr43] at hf; cases hf
    rw [qr43] at hf; dsimp only at hf
    refine XS.go (s_getr rfl xf11_36 (LY.lt L0 (by decide)) (LY.k0 L0) (by decide) rfl qr43) ?_
    by_cases qk44 : b42 < hz h ∧ hk h b42 = 9
    rotate_left
    · rw [if_neg qk44] at hf; cases hf
    rw [if_pos qk44] at hf
    rcases qr46 : hr h b42 2 with _ | b45
    · rw [qr46] at hf; cases hf
    rw [qr46] at hf; dsimp only at hf
    refine XS.go (s_getr rfl xf11_128 qk44.1 qk44.2 (by decide) rfl qr46) ?_
    by_cases qk47 : b45 < hz h ∧ hk h b45 = 4
    rotate_left
    · rw [if_neg qk47] at hf; cases hf
    rw [if_pos qk47] at hf
    refine XS.go (s_getie rfl xf11_120 qk47.1 qk47.2 (by decide) rfl rfl) ?_
    cases hf
    exact XR.reti rfl rfl (fun hret => ⟨_, hret, ⟨rfl, rfl⟩, L0⟩)
  rw [if_neg qs29_2] at hf
  by_cases qs29_3 : a0 = 3
  · rw [if_pos qs29_3] at hf
    refine XS.go (s_tswI (tgt := 89) rfl (by rw [qs29_3]; decide) (by rw [qs29_3]; decide) (by rw [qs29_3]; rfl) rfl) ?_
    refine XS.go (s_aloadn rfl rfl rfl) ?_
    rcases qr49 : hr h 0 4 with _ | b48
    · rw [qr49] at hf; cases hf
    rw [qr49] at hf; dsimp only at hf
    refine XS.go (s_getr rfl xf11_36 (LY.lt L0 (by decide)) (LY.k0 L0) (by decide) rfl qr49) ?_
    by_cases qk50 : b48 < hz h ∧ hk h b48 = 9
    rotate_left
    · rw [if_neg qk50] at hf; cases hf
    rw [if_pos qk50] at hf
    refine XS.go (s_getie rfl xf11_131 qk50.1 qk50.2 (by decide) rfl rfl) ?_
    cases hf
    exact XR.reti rfl rfl (fun hret => ⟨_, hret, ⟨rfl, rfl⟩, L0⟩)
  rw [if_neg qs29_3] at hf
  by_cases qs29_4 : a0 = 4
  · rw [if_pos qs29_4] at hf
    refine XS.go (s_tswI (tgt := 97) rfl (by rw [qs29_4]; decide) (by rw [qs29_4]; decide) (by rw [qs29_4]; rfl) rfl) ?_
    exact XR.forget (L2 := [some (.ref 0), some (.int a0), some (.int a1)]) ⟨rfl, ⟨rfl, ⟨rfl, trivial⟩⟩⟩ (kb_t_size_97 L0 hf)
  rw [if_neg qs29_4] at hf
  by_cases qs29_5 : a0 = 5
  · rw [if_pos qs29_5] at hf
    refine XS.go (s_tswI (tgt := 97) rfl (by rw [qs29_5]; decide) (by rw [qs29_5]; decide) (by rw [qs29_5]; rfl) rfl) ?_
    exact XR.forget (L2 := [some (.ref 0), some (.int a0), some (.int a1)]) ⟨rfl, ⟨rfl, ⟨rfl, trivial⟩⟩⟩ (kb_t_size_97 L0 hf)
  rw [if_neg qs29_5] at hf
  by_cases qs29_6 : a0 = 6
  · rw [if_pos qs29_6] at hf
    refine XS.go (s_tswI (tgt := 97) rfl (by rw [qs29_6]; decide) (by rw [qs29_6]; decide) (by rw [qs29_6]; rfl) rfl) ?_
    exact XR.forget (L2 := [some (.ref 0), some (.int a0), some (.int a1)]) ⟨rfl, ⟨rfl, ⟨rfl, trivial⟩⟩⟩ (kb_t_size_97 L0 hf)
  rw [if_neg qs29_6] at hf
  by_cases qs29_7 : a0 = 7
  · rw [if_pos qs29_7] at hf
    refine XS.go (s_tswI (tgt := 113) rfl (by rw [qs29_7]; decide) (by rw [qs29_7]; decide) (by rw [qs29_7]; rfl) rfl) ?_
    exact XR.forget (L2 := [some (.ref 0), some (.int a0), some (.int a1)]) ⟨rfl, ⟨rfl, ⟨rfl, trivial⟩⟩⟩ (kb_t_size_113 L0 hf)
  rw [if_neg qs29_7] at hf
  by_cases qs29_8 : a0 = 8
  · rw [if_pos qs29_8] at hf
    refine XS.go (s_tswI (tgt := 113) rfl (by rw [qs29_8]; decide) (by rw [qs29_8]; decide) (by rw [qs29_8]; rfl) rfl) ?_
    exact XR.forget (L2 := [some (.ref 0), some (.int a0), some (.int a1)]) ⟨rfl, ⟨rfl, ⟨rfl, trivial⟩⟩⟩ (kb_t_size_113 L0 hf)
  rw [if_neg qs29_8] at hf
  by_cases qs29_9 : a0 = 9
  · rw [if_pos qs29_9] at hf
    refine XS.go (s_tswI (tgt := 129) rfl (by rw [qs29_9]; decide) (by rw [qs29_9]; decide) (by rw [qs29_9]; rfl) rfl) ?_
    refine XS.go (s_aloadn rfl rfl rfl) ?_
    rcases qr52 : hr h 0 4 with _ | b51
    · rw [qr52] at hf; cases hf
    rw [qr52] at hf; dsimp only at hf
    refine XS.go (s_getr rfl xf11_36 (LY.lt L0 (by decide)) (LY.k0 L0) (by decide) rfl qr52) ?_
    by_cases qk53 : b51 < hz h ∧ hk h b51 = 9
    rotate_left
    · rw [if_neg qk53] at hf; cases hf
    rw [if_pos qk53] at hf
    rcases qr55 : hr h b51 2 with _ | b54
    · rw [qr55] at hf; cases hf
    rw [qr55] at hf; dsimp only at hf
    refine XS.go (s_getr rfl xf11_128 qk53.1 qk53.2 (by decide) rfl qr55) ?_
    refine XS.go (s_iloadn rfl rfl rfl) ?_
    by_cases qk56 : b54 < hz h ∧ hk h b54 = 4
    rotate_left
    · rw [if_neg qk56] at hf; cases hf
    rw [if_pos qk56] at hf
    rcases e58 : f_g_at b54 a1 h with _ | r57
    · rw [e58] at hf; cases hf
    rw [e58] at hf; dsimp only at hf
    refine r_callv rfl xvX4_at xm11_134 (kf_g_at (d := d) L0 e58) qk56.1 qk56.2 (by decide) rfl rfl (by omega) (by decide) (Nat.le_of_ble_eq_true rfl) ?_
    rintro _ _ ⟨⟨rfl, rfl⟩, L59⟩
    rcases qo61 : r57.1 with _ | b60
    · rw [qo61] at hf; cases hf
    rw [qo61] at hf; dsimp only at hf; try rw [qo61]
    rcases e63 : f_t_memberCount b60 r57.2 with _ | r62
    · rw [e63] at hf; cases hf
    rw [e63] at hf; dsimp only at hf
    refine r_calls rfl xsX11_memberCount xm11_145 (kf_t_memberCount (d := d) L59 e63) rfl rfl (by omega) (by decide) (Nat.le_of_ble_eq_true rfl) ?_
    rintro _ _ ⟨⟨rfl, rfl⟩, L64⟩
    cases hf
    exact XR.reti rfl rfl (fun hret => ⟨_, hret, ⟨rfl, rfl⟩, L64⟩)
  rw [if_neg qs29_9] at hf
  have qs29_o : (a0).toInt < 0 ∨ 9 < (a0).toInt := by
    refine tsw_out 0 9 (by decide) ?_
    intro k h1 h2
    have z : k = 0 ∨ k = 1 ∨ k = 2 ∨ k = 3 ∨ k = 4 ∨ k = 5 ∨ k = 6 ∨ k = 7 ∨ k = 8 ∨ k = 9 := by omega
    rcases z with rfl | rfl | rfl | rfl | rfl | rfl | rfl | rfl | rfl | rfl
    · exact qs29_0
    · exact qs29_1
    · exact qs29_2
    · exact qs29_3
    · exact qs29_4
    · exact qs29_5
    · exact qs29_6
    · exact qs29_7
    · exact qs29_8
    · exact qs29_9
  refine XS.go (s_tswO (tgt := 144) rfl qs29_o rfl) ?_
  refine XS.go (s_iconst (v := (-1)) rfl rfl) ?_
  cases hf
  exact XR.reti rfl rfl (fun hret => ⟨_, hret, ⟨rfl, rfl⟩, L0⟩)
def b_t_structOrTable_29 (y0 : Option Nat) (h : XH) : Option (Option Nat × XH) := (some (y0, h))
set_option maxRecDepth 20000 in
theorem kb_t_structOrTable_29 {l : Launch} {G : XG} {d : Nat} {y0 : Option Nat} {h : XH} {r : Option Nat × XH} (L0 : LY h) (hf : b_t_structOrTable_29 y0 h = some r) : XR l G xEX11_structOrTable (d + 1) (29, [none, none, none], [(va_rf y0)], h) (fun C => ∃ v, xRet xEX11_structOrTable C v ∧ (C.2.2.2 = r.2 ∧ v = some (va_rf r.1)) ∧ LY r.2) := by
  unfold b_t_structOrTable_29 at hf
  cases hf
  exact XR.reta (o := y0) rfl rfl (fun hret => ⟨_, hret, ⟨rfl, rfl⟩, L0⟩)
def f_t_structOrTable (a0 : Int32) (a1 : Int32) (h : XH) : Option (Option Nat × XH) := (if a0 = 0 then (match hr h 0 4 with | none => none | some b2 => (if b2 < hz h ∧ hk h b2 = 9 then (match hr h b2 1 with | none => none | some b5 => (if b5 < hz h ∧ hk h b5 = 4 then (match f_g_at b5 a1 h with | none => none | some r8 => (b_t_structOrTable_29 r8.1 r8.2)) else none)) else none)) else (match hr h 0 4 with | none => none | some b11 => (if b11 < hz h ∧ hk h b11 = 9 then (match hr h b11 0 with | none => none | some b14 => (if b14 < hz h ∧ hk h b14 = 4 then (match f_g_at b14 a1 h with | none => none | some r17 => (b_t_structOrTable_29 r17.1 r17.2)) else none)) else none)))
set_option maxRecDepth 20000 in
theorem kf_t_structOrTable {l : Launch} {G : XG} {d : Nat} {a0 : Int32} {a1 : Int32} {h : XH} {r : Option Nat × XH} (L0 : LY h) (hf : f_t_structOrTable a0 a1 h = some r) : XC l G xEX11_structOrTable (d + 1) [.ref 0, .int a0, .int a1] h (fun v h2 => (h2 = r.2 ∧ v = some (va_rf r.1)) ∧ LY r.2) := by
  refine XC.virt xvX11_structOrTable (Nat.le_of_ble_eq_true rfl) ?_
  unfold f_t_structOrTable at hf
  refine XS.go (s_iloadn rfl rfl rfl) ?_
  refine r_if_eq (tgt := 18) rfl rfl (fun qc1 => ?_) (fun qc1 => ?_)
  · rw [if_pos qc1] at hf
    refine XS.go (s_aloadn rfl rfl rfl) ?_
    rcases qr3 : hr h 0 4 with _ | b2
    · rw [qr3] at hf; cases hf
    rw [qr3] at hf; dsimp only at hf
    refine XS.go (s_getr rfl xf11_36 (LY.lt L0 (by decide)) (LY.k0 L0) (by decide) rfl qr3) ?_
    by_cases qk4 : b2 < hz h ∧ hk h b2 = 9
    rotate_left
    · rw [if_neg qk4] at hf; cases hf
    rw [if_pos qk4] at hf
    rcases qr6 : hr h b2 1 with _ | b5
    · rw [qr6] at hf; cases hf
    rw [qr6] at hf; dsimp only at hf
    refine XS.go (s_getr rfl xf11_116 qk4.1 qk4.2 (by decide) rfl qr6) ?_
    refine XS.go (s_iloadn rfl rfl rfl) ?_
    by_cases qk7 : b5 < hz h ∧ hk h b5 = 4
    rotate_left
    · rw [if_neg qk7] at hf; cases hf
    rw [if_pos qk7] at hf
    rcases e9 : f_g_at b5 a1 h with _ | r8
    · rw [e9] at hf; cases hf
    rw [e9] at hf; dsimp only at hf
    refine r_callv rfl xvX4_at xm11_134 (kf_g_at (d := d) L0 e9) qk7.1 qk7.2 (by decide) rfl rfl (by omega) (by decide) (Nat.le_of_ble_eq_true rfl) ?_
    rintro _ _ ⟨⟨rfl, rfl⟩, L10⟩
    exact XR.forget (L2 := [none, none, none]) trivial (kb_t_structOrTable_29 L10 hf)
  · rw [if_neg qc1] at hf
    refine XS.go (s_aloadn rfl rfl rfl) ?_
    rcases qr12 : hr h 0 4 with _ | b11
    · rw [qr12] at hf; cases hf
    rw [qr12] at hf; dsimp only at hf
    refine XS.go (s_getr rfl xf11_36 (LY.lt L0 (by decide)) (LY.k0 L0) (by decide) rfl qr12) ?_
    by_cases qk13 : b11 < hz h ∧ hk h b11 = 9
    rotate_left
    · rw [if_neg qk13] at hf; cases hf
    rw [if_pos qk13] at hf
    rcases qr15 : hr h b11 0 with _ | b14
    · rw [qr15] at hf; cases hf
    rw [qr15] at hf; dsimp only at hf
    refine XS.go (s_getr rfl xf11_125 qk13.1 qk13.2 (by decide) rfl qr15) ?_
    refine XS.go (s_iloadn rfl rfl rfl) ?_
    by_cases qk16 : b14 < hz h ∧ hk h b14 = 4
    rotate_left
    · rw [if_neg qk16] at hf; cases hf
    rw [if_pos qk16] at hf
    rcases e18 : f_g_at b14 a1 h with _ | r17
    · rw [e18] at hf; cases hf
    rw [e18] at hf; dsimp only at hf
    refine r_callv rfl xvX4_at xm11_134 (kf_g_at (d := d) L0 e18) qk16.1 qk16.2 (by decide) rfl rfl (by omega) (by decide) (Nat.le_of_ble_eq_true rfl) ?_
    rintro _ _ ⟨⟨rfl, rfl⟩, L19⟩
    refine XS.go (s_goto (tgt := 29) rfl rfl) ?_
    exact XR.forget (L2 := [none, none, none]) trivial (kb_t_structOrTable_29 L19 hf)
def f_t_field (a0 : Int32) (a1 : Int32) (a2 : Int32) (a3 : Int32) (h : XH) : Option (Int32 × XH) := (match f_t_structOrTable a0 a1 h with | none => none | some r1 => (match r1.1 with | none => none | some b4 => (match f_t_fieldOf b4 a2 r1.2 with | none => none | some r6 => (match r6.1 with | none => (some ((-1), r6.2)) | some b10 => (if a3 = 0 then (if b10 < hz r6.2 ∧ hk r6.2 b10 = 3 then (some ((hi r6.2 b10 3), r6.2)) else none) else (if a3 = 1 then (if b10 < hz r6.2 ∧ hk r6.2 b10 = 3 then (some ((hi r6.2 b10 4), r6.2)) else none) else (if a3 = 2 then (if b10 < hz r6.2 ∧ hk r6.2 b10 = 3 then (some ((hi r6.2 b10 5), r6.2)) else none) else (if a3 = 3 then (if b10 < hz r6.2 ∧ hk r6.2 b10 = 3 then (some ((hi r6.2 b10 6), r6.2)) else none) else (if a3 = 4 then (if b10 < hz r6.2 ∧ hk r6.2 b10 = 3 then (if (hi r6.2 b10 7) = 0 then (some (0, r6.2)) else (some (1, r6.2))) else none) else (some ((-1), r6.2)))))))))))
set_option maxRecDepth 20000 in
theorem kf_t_field {l : Launch} {G : XG} {d : Nat} {a0 : Int32} {a1 : Int32} {a2 : Int32} {a3 : Int32} {h : XH} {r : Int32 × XH} (L0 : LY h) (hf : f_t_field a0 a1 a2 a3 h = some r) : XC l G xEX11_field (d + 2) [.ref 0, .int a0, .int a1, .int a2, .int a3] h (fun v h2 => (h2 = r.2 ∧ v = some (.int r.1)) ∧ LY r.2) := by
  refine XC.virt xvX11_field (Nat.le_of_ble_eq_true rfl) ?_
  unfold f_t_field at hf
  refine XS.go (s_aloadn rfl rfl rfl) ?_
  refine XS.go (s_iloadn rfl rfl rfl) ?_
  refine XS.go (s_iloadn rfl rfl rfl) ?_
  rcases e2 : f_t_structOrTable a0 a1 h with _ | r1
  · rw [e2] at hf; cases hf
  rw [e2] at hf; dsimp only at hf
  refine r_callv rfl xvX11_structOrTable xm11_163 (kf_t_structOrTable (d := d) L0 e2) (LY.lt L0 (by decide)) (LY.k0 L0) (by decide) rfl rfl (by omega) (by decide) (Nat.le_of_ble_eq_true rfl) ?_
  rintro _ _ ⟨⟨rfl, rfl⟩, L3⟩
  refine XS.go (s_iloadn rfl rfl rfl) ?_
  rcases qo5 : r1.1 with _ | b4
  · rw [qo5] at hf; cases hf
  rw [qo5] at hf; dsimp only at hf; try rw [qo5]
  rcases e7 : f_t_fieldOf b4 a2 r1.2 with _ | r6
  · rw [e7] at hf; cases hf
  rw [e7] at hf; dsimp only at hf
  refine r_calls rfl xsX11_fieldOf xm11_167 (kf_t_fieldOf (d := d) L3 e7) rfl rfl (by omega) (by decide) (Nat.le_of_ble_eq_true rfl) ?_
  rintro _ _ ⟨⟨rfl, rfl⟩, L8⟩
  refine XS.go (s_astoreO rfl (Nat.le_of_ble_eq_true rfl)) ?_
  refine XS.go (s_aloadO rfl rfl) ?_
  refine r_ifnonnull (tgt := 19) rfl rfl (fun qn9 => ?_) (fun b10 qn9 => ?_)
  · rw [qn9] at hf; dsimp only at hf; try rw [qn9]
    refine XS.go (s_iconst (v := (-1)) rfl rfl) ?_
    cases hf
    exact XR.reti rfl rfl (fun hret => ⟨_, hret, ⟨rfl, rfl⟩, L8⟩)
  · rw [qn9] at hf; dsimp only at hf; try rw [qn9]
    refine XS.go (s_iload rfl rfl) ?_
    by_cases qs11_0 : a3 = 0
    · rw [if_pos qs11_0] at hf
      refine XS.go (s_tswI (tgt := 56) rfl (by rw [qs11_0]; decide) (by rw [qs11_0]; decide) (by rw [qs11_0]; rfl) rfl) ?_
      refine XS.go (s_aload rfl rfl) ?_
      by_cases qk12 : b10 < hz r6.2 ∧ hk r6.2 b10 = 3
      rotate_left
      · rw [if_neg qk12] at hf; cases hf
      rw [if_pos qk12] at hf
      refine XS.go (s_getie rfl xf11_171 qk12.1 qk12.2 (by decide) rfl rfl) ?_
      cases hf
      exact XR.reti rfl rfl (fun hret => ⟨_, hret, ⟨rfl, rfl⟩, L8⟩)
    rw [if_neg qs11_0] at hf
    by_cases qs11_1 : a3 = 1
    · rw [if_pos qs11_1] at hf
      refine XS.go (s_tswI (tgt := 62) rfl (by rw [qs11_1]; decide) (by rw [qs11_1]; decide) (by rw [qs11_1]; rfl) rfl) ?_
      refine XS.go (s_aload rfl rfl) ?_
      by_cases qk13 : b10 < hz r6.2 ∧ hk r6.2 b10 = 3
      rotate_left
      · rw [if_neg qk13] at hf; cases hf
      rw [if_pos qk13] at hf
      refine XS.go (s_getie rfl xf11_176 qk13.1 qk13.2 (by decide) rfl rfl) ?_
      cases hf
      exact XR.reti rfl rfl (fun hret => ⟨_, hret, ⟨rfl, rfl⟩, L8⟩)
    rw [if_neg qs11_1] at hf
    by_cases qs11_2 : a3 = 2
    · rw [if_pos qs11_2] at hf
      refine XS.go (s_tswI (tgt := 68) rfl (by rw [qs11_2]; decide) (by rw [qs11_2]; decide) (by rw [qs11_2]; rfl) rfl) ?_
      refine XS.go (s_aload rfl rfl) ?_
      by_cases qk14 : b10 < hz r6.2 ∧ hk r6.2 b10 = 3
      rotate_left
      · rw [if_neg qk14] at hf; cases hf
      rw [if_pos qk14] at hf
      refine XS.go (s_getie rfl xf11_179 qk14.1 qk14.2 (by decide) rfl rfl) ?_
      cases hf
      exact XR.reti rfl rfl (fun hret => ⟨_, hret, ⟨rfl, rfl⟩, L8⟩)
    rw [if_neg qs11_2] at hf
    by_cases qs11_3 : a3 = 3
    · rw [if_pos qs11_3] at hf
      refine XS.go (s_tswI (tgt := 74) rfl (by rw [qs11_3]; decide) (by rw [qs11_3]; decide) (by rw [qs11_3]; rfl) rfl) ?_
      refine XS.go (s_aload rfl rfl) ?_
      by_cases qk15 : b10 < hz r6.2 ∧ hk r6.2 b10 = 3
      rotate_left
      · rw [if_neg qk15] at hf; cases hf
      rw [if_pos qk15] at hf
      refine XS.go (s_getie rfl xf11_182 qk15.1 qk15.2 (by decide) rfl rfl) ?_
      cases hf
      exact XR.reti rfl rfl (fun hret => ⟨_, hret, ⟨rfl, rfl⟩, L8⟩)
    rw [if_neg qs11_3] at hf
    by_cases qs11_4 : a3 = 4
    · rw [if_pos qs11_4] at hf
      refine XS.go (s_tswI (tgt := 80) rfl (by rw [qs11_4]; decide) (by rw [qs11_4]; decide) (by rw [qs11_4]; rfl) rfl) ?_
      refine XS.go (s_aload rfl rfl) ?_
      by_cases qk16 : b10 < hz r6.2 ∧ hk r6.2 b10 = 3
      rotate_left
      · rw [if_neg qk16] at hf; cases hf
      rw [if_pos qk16] at hf
      refine XS.go (s_getze rfl xf11_185 qk16.1 qk16.2 (by decide) rfl rfl) ?_
      refine r_if_eq (tgt := 92) rfl rfl (fun qc17 => ?_) (fun qc17 => ?_)
      · rw [if_pos qc17] at hf
        refine XS.go (s_iconst (v := 0) rfl rfl) ?_
        cases hf
        exact XR.reti rfl rfl (fun hret => ⟨_, hret, ⟨rfl, rfl⟩, L8⟩)
      · rw [if_neg qc17] at hf
        refine XS.go (s_iconst (v := 1) rfl rfl) ?_
        refine XS.go (s_goto (tgt := 93) rfl rfl) ?_
        cases hf
        exact XR.reti rfl rfl (fun hret => ⟨_, hret, ⟨rfl, rfl⟩, L8⟩)
    rw [if_neg qs11_4] at hf
    have qs11_o : (a3).toInt < 0 ∨ 4 < (a3).toInt := by
      refine tsw_out 0 4 (by decide) ?_
      intro k h1 h2
      have z : k = 0 ∨ k = 1 ∨ k = 2 ∨ k = 3 ∨ k = 4 := by omega
      rcases z with rfl | rfl | rfl | rfl | rfl
      · exact qs11_0
      · exact qs11_1
      · exact qs11_2
      · exact qs11_3
      · exact qs11_4
    refine XS.go (s_tswO (tgt := 94) rfl qs11_o rfl) ?_
    refine XS.go (s_iconst (v := (-1)) rfl rfl) ?_
    cases hf
    exact XR.reti rfl rfl (fun hret => ⟨_, hret, ⟨rfl, rfl⟩, L8⟩)
def f_t_standard (a0 : Int32) (a1 : Int32) (h : XH) : Option (Int64 × XH) := (match hr h 0 4 with | none => none | some b1 => (if b1 < hz h ∧ hk h b1 = 9 then (match hr h b1 1 with | none => none | some b4 => (if b4 < hz h ∧ hk h b4 = 4 then (match f_g_at b4 a0 h with | none => none | some r7 => (match r7.1 with | none => none | some b10 => (match f_t_fieldOf b10 a1 r7.2 with | none => none | some r12 => (match r12.1 with | none => (some (0, r12.2)) | some b16 => (if b16 < hz r12.2 ∧ hk r12.2 b16 = 3 then (some ((hj r12.2 b16 8), r12.2)) else none))))) else none)) else none))
set_option maxRecDepth 20000 in
theorem kf_t_standard {l : Launch} {G : XG} {d : Nat} {a0 : Int32} {a1 : Int32} {h : XH} {r : Int64 × XH} (L0 : LY h) (hf : f_t_standard a0 a1 h = some r) : XC l G xEX11_standard (d + 2) [.ref 0, .int a0, .int a1] h (fun v h2 => (h2 = r.2 ∧ v = some (.long r.1)) ∧ LY r.2) := by
  refine XC.virt xvX11_standard (Nat.le_of_ble_eq_true rfl) ?_
  unfold f_t_standard at hf
  refine XS.go (s_aloadn rfl rfl rfl) ?_
  rcases qr2 : hr h 0 4 with _ | b1
  · rw [qr2] at hf; cases hf
  rw [qr2] at hf; dsimp only at hf
  refine XS.go (s_getr rfl xf11_36 (LY.lt L0 (by decide)) (LY.k0 L0) (by decide) rfl qr2) ?_
  by_cases qk3 : b1 < hz h ∧ hk h b1 = 9
  rotate_left
  · rw [if_neg qk3] at hf; cases hf
  rw [if_pos qk3] at hf
  rcases qr5 : hr h b1 1 with _ | b4
  · rw [qr5] at hf; cases hf
  rw [qr5] at hf; dsimp only at hf
  refine XS.go (s_getr rfl xf11_116 qk3.1 qk3.2 (by decide) rfl qr5) ?_
  refine XS.go (s_iloadn rfl rfl rfl) ?_
  by_cases qk6 : b4 < hz h ∧ hk h b4 = 4
  rotate_left
  · rw [if_neg qk6] at hf; cases hf
  rw [if_pos qk6] at hf
  rcases e8 : f_g_at b4 a0 h with _ | r7
  · rw [e8] at hf; cases hf
  rw [e8] at hf; dsimp only at hf
  refine r_callv rfl xvX4_at xm11_134 (kf_g_at (d := d) L0 e8) qk6.1 qk6.2 (by decide) rfl rfl (by omega) (by decide) (Nat.le_of_ble_eq_true rfl) ?_
  rintro _ _ ⟨⟨rfl, rfl⟩, L9⟩
  refine XS.go (s_iloadn rfl rfl rfl) ?_
  rcases qo11 : r7.1 with _ | b10
  · rw [qo11] at hf; cases hf
  rw [qo11] at hf; dsimp only at hf; try rw [qo11]
  rcases e13 : f_t_fieldOf b10 a1 r7.2 with _ | r12
  · rw [e13] at hf; cases hf
  rw [e13] at hf; dsimp only at hf
  refine r_calls rfl xsX11_fieldOf xm11_167 (kf_t_fieldOf (d := d) L9 e13) rfl rfl (by omega) (by decide) (Nat.le_of_ble_eq_true rfl) ?_
  rintro _ _ ⟨⟨rfl, rfl⟩, L14⟩
  refine XS.go (s_astorenO rfl rfl (Nat.le_of_ble_eq_true rfl)) ?_
  refine XS.go (s_aloadnO rfl rfl rfl) ?_
  refine r_ifnonnull (tgt := 24) rfl rfl (fun qn15 => ?_) (fun b16 qn15 => ?_)
  · rw [qn15] at hf; dsimp only at hf; try rw [qn15]
    refine XS.go (s_lconst (v := 0) rfl rfl) ?_
    refine XS.go (s_goto (tgt := 28) rfl rfl) ?_
    cases hf
    exact XR.retl rfl rfl (fun hret => ⟨_, hret, ⟨rfl, rfl⟩, L14⟩)
  · rw [qn15] at hf; dsimp only at hf; try rw [qn15]
    refine XS.go (s_aloadn rfl rfl rfl) ?_
    by_cases qk17 : b16 < hz r12.2 ∧ hk r12.2 b16 = 3
    rotate_left
    · rw [if_neg qk17] at hf; cases hf
    rw [if_pos qk17] at hf
    refine XS.go (s_getje rfl xf11_193 qk17.1 qk17.2 (by decide) rfl rfl) ?_
    cases hf
    exact XR.retl rfl rfl (fun hret => ⟨_, hret, ⟨rfl, rfl⟩, L14⟩)
def f_t_find (a0 : Int32) (a1 : Int32) (h : XH) : Option (Int32 × XH) := (match f_t_structOrTable a0 a1 (hsi h 1 1 0) with | none => none | some r1 => (match r1.1 with | none => (some ((-1), r1.2)) | some b5 => (if 16 < (hi h 1 1) then (some ((-1), r1.2)) else (match f_b_hasZero 1 (hi h 1 1) r1.2 with | none => none | some r7 => (if r7.1 = 0 then (match f_b_packed 1 0 (hi h 1 1) r7.2 with | none => none | some r11 => (match f_b_packed 1 8 (hi h 1 1) r11.2 with | none => none | some r14 => (if b5 < hz r14.2 ∧ hk r14.2 b5 = 2 then (match f_d_fieldNamed b5 r11.1 r14.1 r14.2 with | none => none | some r18 => (some (r18.1, r18.2))) else none))) else (some ((-1), r7.2)))))))
set_option maxRecDepth 20000 in
theorem kf_t_find {l : Launch} {G : XG} {d : Nat} {a0 : Int32} {a1 : Int32} {h : XH} {r : Int32 × XH} (L0 : LY h) (hf : f_t_find a0 a1 h = some r) : XC l G xEX11_find (d + 2) [.ref 0, .int a0, .int a1] h (fun v h2 => (h2 = r.2 ∧ v = some (.int r.1)) ∧ LY r.2) := by
  refine XC.virt xvX11_find (Nat.le_of_ble_eq_true rfl) ?_
  unfold f_t_find at hf
  refine XS.go (s_aloadn rfl rfl rfl) ?_
  refine XS.go (s_getr rfl xf11_10 (LY.lt L0 (by decide)) (LY.k0 L0) (by decide) rfl (LY.r0_0 L0)) ?_
  refine XS.go (s_getie rfl xf11_73 (LY.lt L0 (by decide)) (LY.k1 L0) (by decide) rfl rfl) ?_
  refine XS.go (s_istoren rfl rfl (Nat.le_of_ble_eq_true rfl)) ?_
  refine XS.go (s_aloadn rfl rfl rfl) ?_
  refine XS.go (s_getr rfl xf11_10 (LY.lt L0 (by decide)) (LY.k0 L0) (by decide) rfl (LY.r0_0 L0)) ?_
  refine XS.go (s_iconst (v := 0) rfl rfl) ?_
  refine XS.go (s_puti rfl xf11_73 (LY.lt L0 (by decide)) (LY.k1 L0) (by decide) rfl (Or.inl rfl)) ?_
  refine XS.go (s_aloadn rfl rfl rfl) ?_
  refine XS.go (s_iloadn rfl rfl rfl) ?_
  refine XS.go (s_iloadn rfl rfl rfl) ?_
  rcases e2 : f_t_structOrTable a0 a1 (hsi h 1 1 0) with _ | r1
  · rw [e2] at hf; cases hf
  rw [e2] at hf; dsimp only at hf
  refine r_callv rfl xvX11_structOrTable xm11_163 (kf_t_structOrTable (d := d) (by simp only [LY_si, LY_sj]; exact L0) e2) (LY.lt (by simp only [LY_si, LY_sj]; exact L0) (by decide)) (LY.k0 (by simp only [LY_si, LY_sj]; exact L0)) (by decide) rfl rfl (by omega) (by decide) (Nat.le_of_ble_eq_true rfl) ?_
  rintro _ _ ⟨⟨rfl, rfl⟩, L3⟩
  refine XS.go (s_astoreO rfl (Nat.le_of_ble_eq_true rfl)) ?_
  refine XS.go (s_aloadO rfl rfl) ?_
  refine r_ifnull (tgt := 46) rfl rfl (fun qn4 => ?_) (fun b5 qn4 => ?_)
  · rw [qn4] at hf; dsimp only at hf; try rw [qn4]
    refine XS.go (s_iconst (v := (-1)) rfl rfl) ?_
    cases hf
    exact XR.reti rfl rfl (fun hret => ⟨_, hret, ⟨rfl, rfl⟩, L3⟩)
  · rw [qn4] at hf; dsimp only at hf; try rw [qn4]
    refine XS.go (s_iloadn rfl rfl rfl) ?_
    refine XS.go (s_bipush (v := 16) rfl rfl) ?_
    refine r_icmp_gt (tgt := 46) rfl rfl (fun qc6 => ?_) (fun qc6 => ?_)
    · rw [if_pos qc6] at hf
      refine XS.go (s_iconst (v := (-1)) rfl rfl) ?_
      cases hf
      exact XR.reti rfl rfl (fun hret => ⟨_, hret, ⟨rfl, rfl⟩, L3⟩)
    · rw [if_neg qc6] at hf
      refine XS.go (s_aloadn rfl rfl rfl) ?_
      refine XS.go (s_getr rfl xf11_10 (LY.lt L3 (by decide)) (LY.k0 L3) (by decide) rfl (LY.r0_0 L3)) ?_
      refine XS.go (s_iloadn rfl rfl rfl) ?_
      rcases e8 : f_b_hasZero 1 (hi h 1 1) r1.2 with _ | r7
      · rw [e8] at hf; cases hf
      rw [e8] at hf; dsimp only at hf
      refine r_callv rfl xvX1_hasZero xm11_197 (kf_b_hasZero (d := d) L3 e8) (LY.lt L3 (by decide)) (LY.k1 L3) (by decide) rfl rfl (by omega) (by decide) (Nat.le_of_ble_eq_true rfl) ?_
      rintro _ _ ⟨⟨rfl, rfl⟩, L9⟩
      refine r_if_eq (tgt := 48) rfl rfl (fun qc10 => ?_) (fun qc10 => ?_)
      · rw [if_pos qc10] at hf
        refine XS.go (s_aload rfl rfl) ?_
        refine XS.go (s_aloadn rfl rfl rfl) ?_
        refine XS.go (s_getr rfl xf11_10 (LY.lt L9 (by decide)) (LY.k0 L9) (by decide) rfl (LY.r0_0 L9)) ?_
        refine XS.go (s_iconst (v := 0) rfl rfl) ?_
        refine XS.go (s_iloadn rfl rfl rfl) ?_
        rcases e12 : f_b_packed 1 0 (hi h 1 1) r7.2 with _ | r11
        · rw [e12] at hf; cases hf
        rw [e12] at hf; dsimp only at hf
        refine r_callv rfl xvX1_packed xm11_201 (kf_b_packed (d := d) L9 e12) (LY.lt L9 (by decide)) (LY.k1 L9) (by decide) rfl rfl (by omega) (by decide) (Nat.le_of_ble_eq_true rfl) ?_
        rintro _ _ ⟨⟨rfl, rfl⟩, L13⟩
        refine XS.go (s_aloadn rfl rfl rfl) ?_
        refine XS.go (s_getr rfl xf11_10 (LY.lt L13 (by decide)) (LY.k0 L13) (by decide) rfl (LY.r0_0 L13)) ?_
        refine XS.go (s_bipush (v := 8) rfl rfl) ?_
        refine XS.go (s_iloadn rfl rfl rfl) ?_
        rcases e15 : f_b_packed 1 8 (hi h 1 1) r11.2 with _ | r14
        · rw [e15] at hf; cases hf
        rw [e15] at hf; dsimp only at hf
        refine r_callv rfl xvX1_packed xm11_201 (kf_b_packed (d := d) L13 e15) (LY.lt L13 (by decide)) (LY.k1 L13) (by decide) rfl rfl (by omega) (by decide) (Nat.le_of_ble_eq_true rfl) ?_
        rintro _ _ ⟨⟨rfl, rfl⟩, L16⟩
        by_cases qk17 : b5 < hz r14.2 ∧ hk r14.2 b5 = 2
        rotate_left
        · rw [if_neg qk17] at hf; cases hf
        rw [if_pos qk17] at hf
        rcases e19 : f_d_fieldNamed b5 r11.1 r14.1 r14.2 with _ | r18
        · rw [e19] at hf; cases hf
        rw [e19] at hf; dsimp only at hf
        refine r_callv rfl xvX2_fieldNamed xm11_205 (kf_d_fieldNamed (d := d) L16 e19) qk17.1 qk17.2 (by decide) rfl rfl (by omega) (by decide) (Nat.le_of_ble_eq_true rfl) ?_
        rintro _ _ ⟨⟨rfl, rfl⟩, L20⟩
        cases hf
        exact XR.reti rfl rfl (fun hret => ⟨_, hret, ⟨rfl, rfl⟩, L20⟩)
      · rw [if_neg qc10] at hf
        refine XS.go (s_iconst (v := (-1)) rfl rfl) ?_
        cases hf
        exact XR.reti rfl rfl (fun hret => ⟨_, hret, ⟨rfl, rfl⟩, L9⟩)
def f_t_push (a0 : Int64) (h : XH) : Option (Int32 × XH) := (match f_w_add 5 a0 h with | none => none | some r1 => (some (r1.1, r1.2)))
set_option maxRecDepth 20000 in
theorem kf_t_push {l : Launch} {G : XG} {d : Nat} {a0 : Int64} {h : XH} {r : Int32 × XH} (L0 : LY h) (hf : f_t_push a0 h = some r) : XC l G xEX11_push (d + 1) [.ref 0, .long a0] h (fun v h2 => (h2 = r.2 ∧ v = some (.int r.1)) ∧ LY r.2) := by
  refine XC.virt xvX11_push (Nat.le_of_ble_eq_true rfl) ?_
  unfold f_t_push at hf
  refine XS.go (s_aloadn rfl rfl rfl) ?_
  refine XS.go (s_getr rfl xf11_22 (LY.lt L0 (by decide)) (LY.k0 L0) (by decide) rfl (LY.r0_2 L0)) ?_
  refine XS.go (s_lloadn rfl rfl rfl) ?_
  rcases e2 : f_w_add 5 a0 h with _ | r1
  · rw [e2] at hf; cases hf
  rw [e2] at hf; dsimp only at hf
  refine r_callv rfl xvX10_add xm11_209 (kf_w_add (d := d) L0 e2) (LY.lt L0 (by decide)) (LY.k5 L0) (by decide) rfl rfl (by omega) (by decide) (Nat.le_of_ble_eq_true rfl) ?_
  rintro _ _ ⟨⟨rfl, rfl⟩, L3⟩
  cases hf
  exact XR.reti rfl rfl (fun hret => ⟨_, hret, ⟨rfl, rfl⟩, L3⟩)
def f_t_text (h : XH) : Option (Sum Int32 Nat × XH) := (match f_u_isOpen (hsi h 1 1 0) with | none => none | some r1 => (if r1.1 = 0 then (match f_u_addText 1 (hi h 1 1) r1.2 with | none => none | some r5 => (if ¬ r5.1 = (-1) then (some (Sum.inl r5.1, r5.2)) else (if hz r5.2 < 1000000 then (some (Sum.inr 2, hthr r5.2)) else none))) else (if hz r1.2 < 1000000 then (some (Sum.inr 1, hthr r1.2)) else none)))
set_option maxRecDepth 20000 in
theorem kf_t_text {l : Launch} {G : XG} {d : Nat} {h : XH} {r : Sum Int32 Nat × XH} (hl : l.stackTraces = false) (L0 : LY h) (hf : f_t_text h = some r) : (∃ x, r.1 = Sum.inl x ∧ XC l G xEX11_text (d + 6) [.ref 0] h (fun v h2 => (h2 = r.2 ∧ v = some (.int x)) ∧ LY r.2)) ∨ ∃ k E, r.1 = Sum.inr k ∧ xXs[k]? = some E ∧ XCx l G xEX11_text (d + 6) [.ref 0] h E (fun h2 => h2 = r.2 ∧ LY r.2) := by
  refine xe_of (R := Int32) (V := fun x => some (.int x)) hl xvX11_text rfl (Nat.le_of_ble_eq_true rfl) (by omega) ?_
  unfold f_t_text at hf
  refine XS.go (s_aloadn rfl rfl rfl) ?_
  refine XS.go (s_getr rfl xf11_10 (LY.lt L0 (by decide)) (LY.k0 L0) (by decide) rfl (LY.r0_0 L0)) ?_
  refine XS.go (s_getie rfl xf11_73 (LY.lt L0 (by decide)) (LY.k1 L0) (by decide) rfl rfl) ?_
  refine XS.go (s_istoren rfl rfl (Nat.le_of_ble_eq_true rfl)) ?_
  refine XS.go (s_aloadn rfl rfl rfl) ?_
  refine XS.go (s_getr rfl xf11_10 (LY.lt L0 (by decide)) (LY.k0 L0) (by decide) rfl (LY.r0_0 L0)) ?_
  refine XS.go (s_iconst (v := 0) rfl rfl) ?_
  refine XS.go (s_puti rfl xf11_73 (LY.lt L0 (by decide)) (LY.k1 L0) (by decide) rfl (Or.inl rfl)) ?_
  refine XS.go (s_aloadn rfl rfl rfl) ?_
  refine XS.go (s_getr rfl xf11_46 (LY.lt (by simp only [LY_si, LY_sj]; exact L0) (by decide)) (LY.k0 (by simp only [LY_si, LY_sj]; exact L0)) (by decide) rfl (LY.r0_6 (by simp only [LY_si, LY_sj]; exact L0))) ?_
  rcases e2 : f_u_isOpen (hsi h 1 1 0) with _ | r1
  · rw [e2] at hf; cases hf
  rw [e2] at hf; dsimp only at hf
  refine r_callv rfl xvX0_isOpen xm11_213 (kf_u_isOpen (d := d) (by simp only [LY_si, LY_sj]; exact L0) e2) (LY.lt (by simp only [LY_si, LY_sj]; exact L0) (by decide)) (LY.k1244 (by simp only [LY_si, LY_sj]; exact L0)) (by decide) rfl rfl (by omega) (by decide) (Nat.le_of_ble_eq_true rfl) ?_
  rintro _ _ ⟨⟨rfl, rfl⟩, L3⟩
  refine r_if_eq (tgt := 36) rfl rfl (fun qc4 => ?_) (fun qc4 => ?_)
  · rw [if_pos qc4] at hf
    refine XS.go (s_aloadn rfl rfl rfl) ?_
    refine XS.go (s_getr rfl xf11_46 (LY.lt L3 (by decide)) (LY.k0 L3) (by decide) rfl (LY.r0_6 L3)) ?_
    refine XS.go (s_aloadn rfl rfl rfl) ?_
    refine XS.go (s_getr rfl xf11_10 (LY.lt L3 (by decide)) (LY.k0 L3) (by decide) rfl (LY.r0_0 L3)) ?_
    refine XS.go (s_iloadn rfl rfl rfl) ?_
    rcases e6 : f_u_addText 1 (hi h 1 1) r1.2 with _ | r5
    · rw [e6] at hf; cases hf
    rw [e6] at hf; dsimp only at hf
    refine r_callv rfl xvX0_addText xm11_221 (kf_u_addText (d := d) L3 e6) (LY.lt L3 (by decide)) (LY.k1244 L3) (by decide) rfl rfl (by omega) (by decide) (Nat.le_of_ble_eq_true rfl) ?_
    rintro _ _ ⟨⟨rfl, rfl⟩, L7⟩
    refine XS.go (s_istoren rfl rfl (Nat.le_of_ble_eq_true rfl)) ?_
    refine XS.go (s_iloadn rfl rfl rfl) ?_
    refine XS.go (s_iconst (v := (-1)) rfl rfl) ?_
    refine r_icmp_ne (tgt := 64) rfl rfl (fun qc8 => ?_) (fun qc8 => ?_)
    · rw [if_pos qc8] at hf
      refine XS.go (s_iloadn rfl rfl rfl) ?_
      cases hf
      exact XR.reti rfl rfl (fun hret => Or.inl ⟨_, hret, ⟨rfl, ⟨_, rfl, rfl⟩⟩, L7⟩)
    · rw [if_neg qc8] at hf
      by_cases qk9 : hz r5.2 < 1000000
      rotate_left
      · rw [if_neg qk9] at hf; cases hf
      rw [if_pos qk9] at hf
      cases hf
      exact XR.here (Or.inr ⟨2, _, rfl, rfl, ⟨225, 227, 229, 20, _, rfl, xthr2, ⟨⟨rfl, rfl, rfl⟩, Or.inl ⟨rfl, rfl, rfl⟩⟩, qk9⟩, rfl, LY.new L7 qk9⟩)
  · rw [if_neg qc4] at hf
    by_cases qk10 : hz r1.2 < 1000000
    rotate_left
    · rw [if_neg qk10] at hf; cases hf
    rw [if_pos qk10] at hf
    cases hf
    exact XR.here (Or.inr ⟨1, _, rfl, rfl, ⟨216, 218, 220, 19, _, rfl, xthr1, ⟨⟨rfl, rfl, rfl⟩, Or.inl ⟨rfl, rfl, rfl⟩⟩, qk10⟩, rfl, LY.new L3 qk10⟩)
