/-! Methods as functions of the heap -/
def f_u_putField (a0 : Nat) (a1 : Nat) (a2 : Nat) (h : XH) : Option (Int32 × XH) := (if a1 < hz h ∧ hk h a1 = 3 then (if ¬ (hi h a1 3) = 4 then (if a0 < hz h ∧ hk h a0 = 9 then (match f_s_bytesOf a0 (hi h a1 3) (hi h a1 4) h with | none => none | some r4 => (if a1 < hz r4.2 ∧ hk r4.2 a1 = 3 then (if a0 < hz r4.2 ∧ hk r4.2 a0 = 9 then (match f_s_alignmentOf a0 (hi r4.2 a1 3) (hi r4.2 a1 4) r4.2 with | none => none | some r9 => (match f_t_roundUp ((hi r9.2 1244 1) + r4.1) r9.1 r9.2 with | none => none | some r12 => (if r12.1 ≤ 4000 then (match f_u_grow r4.1 r9.1 r12.2 with | none => none | some r16 => (if a1 < hz r16.2 ∧ hk r16.2 a1 = 3 then (match f_u_putContent a0 r16.1 (hi r16.2 a1 3) (hi r16.2 a1 4) a2 0 r16.2 with | none => none | some r20 => (if a1 < hz r20.2 ∧ hk r20.2 a1 = 3 then (match f_u_markStored (hi r20.2 a1 6) r20.2 with | none => none | some r24 => (some (1, r24.2))) else none)) else none)) else (some (0, r12.2))))) else none) else none)) else none) else (match f_u_putUnion a1 a2 h with | none => none | some r27 => (if r27.1 = 0 ∨ r27.1 = 1 then (some (r27.1, r27.2)) else none))) else none)
set_option maxRecDepth 20000 in
theorem kf_u_putField {l : Launch} {G : XG} {d : Nat} {a0 : Nat} {a1 : Nat} {a2 : Nat} {h : XH} {r : Int32 × XH} (L0 : LY h) (hf : f_u_putField a0 a1 a2 h = some r) : XC l G xEX0_putField (d + 4) [.ref 1244, .ref a0, .ref a1, .ref a2] h (fun v h2 => (h2 = r.2 ∧ v = some (.int r.1)) ∧ LY r.2) := by
  refine XC.virt xvX0_putField (Nat.le_of_ble_eq_true rfl) ?_
  unfold f_u_putField at hf
  refine XS.go (s_aloadn rfl rfl rfl) ?_
  by_cases qk1 : a1 < hz h ∧ hk h a1 = 3
  rotate_left
  · rw [if_neg qk1] at hf; cases hf
  rw [if_pos qk1] at hf
  refine XS.go (s_getie rfl xf0_166 qk1.1 qk1.2 (by decide) rfl rfl) ?_
  refine XS.go (s_iconst (v := 4) rfl rfl) ?_
  refine r_icmp_ne (tgt := 15) rfl rfl (fun qc2 => ?_) (fun qc2 => ?_)
  · rw [if_pos qc2] at hf
    refine XS.go (s_aloadn rfl rfl rfl) ?_
    refine XS.go (s_aloadn rfl rfl rfl) ?_
    refine XS.go (s_getie rfl xf0_166 qk1.1 qk1.2 (by decide) rfl rfl) ?_
    refine XS.go (s_aloadn rfl rfl rfl) ?_
    refine XS.go (s_getie rfl xf0_173 qk1.1 qk1.2 (by decide) rfl rfl) ?_
    by_cases qk3 : a0 < hz h ∧ hk h a0 = 9
    rotate_left
    · rw [if_neg qk3] at hf; cases hf
    rw [if_pos qk3] at hf
    rcases e5 : f_s_bytesOf a0 (hi h a1 3) (hi h a1 4) h with _ | r4
    · rw [e5] at hf; cases hf
    rw [e5] at hf; dsimp only at hf
    refine r_callv rfl xvX9_bytesOf xm0_118 (kf_s_bytesOf (d := d) L0 e5) qk3.1 qk3.2 (by decide) rfl rfl (by omega) (by decide) (Nat.le_of_ble_eq_true rfl) ?_
    rintro _ _ ⟨⟨rfl, rfl⟩, L6⟩
    refine XS.go (s_istore rfl (Nat.le_of_ble_eq_true rfl)) ?_
    refine XS.go (s_aloadn rfl rfl rfl) ?_
    refine XS.go (s_aloadn rfl rfl rfl) ?_
    by_cases qk7 : a1 < hz r4.2 ∧ hk r4.2 a1 = 3
    rotate_left
    · rw [if_neg qk7] at hf; cases hf
    rw [if_pos qk7] at hf
    refine XS.go (s_getie rfl xf0_166 qk7.1 qk7.2 (by decide) rfl rfl) ?_
    refine XS.go (s_aloadn rfl rfl rfl) ?_
    refine XS.go (s_getie rfl xf0_173 qk7.1 qk7.2 (by decide) rfl rfl) ?_
    by_cases qk8 : a0 < hz r4.2 ∧ hk r4.2 a0 = 9
    rotate_left
    · rw [if_neg qk8] at hf; cases hf
    rw [if_pos qk8] at hf
    rcases e10 : f_s_alignmentOf a0 (hi r4.2 a1 3) (hi r4.2 a1 4) r4.2 with _ | r9
    · rw [e10] at hf; cases hf
    rw [e10] at hf; dsimp only at hf
    refine r_callv rfl xvX9_alignmentOf xm0_123 (kf_s_alignmentOf (d := d) L6 e10) qk8.1 qk8.2 (by decide) rfl rfl (by omega) (by decide) (Nat.le_of_ble_eq_true rfl) ?_
    rintro _ _ ⟨⟨rfl, rfl⟩, L11⟩
    refine XS.go (s_istore rfl (Nat.le_of_ble_eq_true rfl)) ?_
    refine XS.go (s_aloadn rfl rfl rfl) ?_
    refine XS.go (s_getie rfl xf0_18 (LY.lt L11 (by decide)) (LY.k1244 L11) (by decide) rfl rfl) ?_
    refine XS.go (s_iload rfl rfl) ?_
    refine XS.go (s_iadd rfl) ?_
    refine XS.go (s_iload rfl rfl) ?_
    rcases e13 : f_t_roundUp ((hi r9.2 1244 1) + r4.1) r9.1 r9.2 with _ | r12
    · rw [e13] at hf; cases hf
    rw [e13] at hf; dsimp only at hf
    refine r_callsn rfl xsX11_roundUp (List.mem_of_getElem? (i := 15) rfl) (kf_t_roundUp (d := d) L11 e13) rfl rfl (by omega) (by decide) (Nat.le_of_ble_eq_true rfl) ?_
    rintro _ _ ⟨⟨rfl, rfl⟩, L14⟩
    refine XS.go (s_sipush (v := 4000) rfl rfl) ?_
    refine r_icmp_le (tgt := 63) rfl rfl (fun qc15 => ?_) (fun qc15 => ?_)
    · rw [if_pos qc15] at hf
      refine XS.go (s_aloadn rfl rfl rfl) ?_
      refine XS.go (s_iload rfl rfl) ?_
      refine XS.go (s_iload rfl rfl) ?_
      rcases e17 : f_u_grow r4.1 r9.1 r12.2 with _ | r16
      · rw [e17] at hf; cases hf
      rw [e17] at hf; dsimp only at hf
      refine r_callv rfl xvX0_grow xm0_107 (kf_u_grow (d := d) L14 e17) (LY.lt L14 (by decide)) (LY.k1244 L14) (by decide) rfl rfl (by omega) (by decide) (Nat.le_of_ble_eq_true rfl) ?_
      rintro _ _ ⟨⟨rfl, rfl⟩, L18⟩
      refine XS.go (s_istore rfl (Nat.le_of_ble_eq_true rfl)) ?_
      refine XS.go (s_aloadn rfl rfl rfl) ?_
      refine XS.go (s_aloadn rfl rfl rfl) ?_
      refine XS.go (s_iload rfl rfl) ?_
      refine XS.go (s_aloadn rfl rfl rfl) ?_
      by_cases qk19 : a1 < hz r16.2 ∧ hk r16.2 a1 = 3
      rotate_left
      · rw [if_neg qk19] at hf; cases hf
      rw [if_pos qk19] at hf
      refine XS.go (s_getie rfl xf0_166 qk19.1 qk19.2 (by decide) rfl rfl) ?_
      refine XS.go (s_aloadn rfl rfl rfl) ?_
      refine XS.go (s_getie rfl xf0_173 qk19.1 qk19.2 (by decide) rfl rfl) ?_
      refine XS.go (s_aloadn rfl rfl rfl) ?_
      refine XS.go (s_iconst (v := 0) rfl rfl) ?_
      rcases e21 : f_u_putContent a0 r16.1 (hi r16.2 a1 3) (hi r16.2 a1 4) a2 0 r16.2 with _ | r20
      · rw [e21] at hf; cases hf
      rw [e21] at hf; dsimp only at hf
      refine r_callv rfl xvX0_putContent xm0_126 (kf_u_putContent (d := d) L18 e21) (LY.lt L18 (by decide)) (LY.k1244 L18) (by decide) rfl rfl (by omega) (by decide) (Nat.le_of_ble_eq_true rfl) ?_
      rintro _ _ ⟨⟨rfl, rfl⟩, L22⟩
      refine XS.go (s_aloadn rfl rfl rfl) ?_
      refine XS.go (s_aloadn rfl rfl rfl) ?_
      by_cases qk23 : a1 < hz r20.2 ∧ hk r20.2 a1 = 3
      rotate_left
      · rw [if_neg qk23] at hf; cases hf
      rw [if_pos qk23] at hf
      refine XS.go (s_getie rfl xf0_176 qk23.1 qk23.2 (by decide) rfl rfl) ?_
      rcases e25 : f_u_markStored (hi r20.2 a1 6) r20.2 with _ | r24
      · rw [e25] at hf; cases hf
      rw [e25] at hf; dsimp only at hf
      refine r_callv rfl xvX0_markStored xm0_179 (kf_u_markStored (d := d) L22 e25) (LY.lt L22 (by decide)) (LY.k1244 L22) (by decide) rfl rfl (by omega) (by decide) (Nat.le_of_ble_eq_true rfl) ?_
      rintro _ _ ⟨⟨rfl, rfl⟩, L26⟩
      refine XS.go (s_iconst (v := 1) rfl rfl) ?_
      cases hf
      exact XR.retz rfl rfl (by decide) (fun hret => ⟨_, hret, ⟨rfl, rfl⟩, L26⟩)
    · rw [if_neg qc15] at hf
      refine XS.go (s_iconst (v := 0) rfl rfl) ?_
      cases hf
      exact XR.retz rfl rfl (by decide) (fun hret => ⟨_, hret, ⟨rfl, rfl⟩, L14⟩)
  · rw [if_neg qc2] at hf
    refine XS.go (s_aloadn rfl rfl rfl) ?_
    refine XS.go (s_aloadn rfl rfl rfl) ?_
    refine XS.go (s_aloadn rfl rfl rfl) ?_
    rcases e28 : f_u_putUnion a1 a2 h with _ | r27
    · rw [e28] at hf; cases hf
    rw [e28] at hf; dsimp only at hf
    refine r_callv rfl xvX0_putUnion xm0_169 (kf_u_putUnion (d := d) L0 e28) (LY.lt L0 (by decide)) (LY.k1244 L0) (by decide) rfl rfl (by omega) (by decide) (Nat.le_of_ble_eq_true rfl) ?_
    rintro _ _ ⟨⟨rfl, rfl⟩, L29⟩
    by_cases qk30 : r27.1 = 0 ∨ r27.1 = 1
    rotate_left
    · rw [if_neg qk30] at hf; cases hf
    rw [if_pos qk30] at hf
    cases hf
    exact XR.retz rfl rfl qk30 (fun hret => ⟨_, hret, ⟨rfl, rfl⟩, L29⟩)
def b_u_prepareList_90 (x1 : Int32) (h : XH) : Option (Unit × XH) := (some ((), (hsi (hsi h 1254 (Int32.toNatClampNeg 0) (2 * (hi h 1244 15))) 1254 (Int32.toNatClampNeg 1) (x1 - (hi h 1244 11)))))
set_option maxRecDepth 20000 in
theorem kb_u_prepareList_90 {l : Launch} {G : XG} {d : Nat} {x1 : Int32} {h : XH} {r : Unit × XH} (L0 : LY h) (hf : b_u_prepareList_90 x1 h = some r) : XR l G xEX0_prepareList d (90, [some (.ref 1244), some (.int x1), none, none], [], h) (fun C => ∃ v, xRet xEX0_prepareList C v ∧ (C.2.2.2 = r.2 ∧ v = none) ∧ LY r.2) := by
  unfold b_u_prepareList_90 at hf
  refine XS.go (s_aloadn rfl rfl rfl) ?_
  refine XS.go (s_getr rfl xf0_60 (LY.lt L0 (by decide)) (LY.k1244 L0) (by decide) rfl (LY.r1244_14 L0)) ?_
  refine XS.go (s_iconst (v := 0) rfl rfl) ?_
  refine XS.go (s_iconst (v := 2) rfl rfl) ?_
  refine XS.go (s_aloadn rfl rfl rfl) ?_
  refine XS.go (s_getie rfl xf0_63 (LY.lt L0 (by decide)) (LY.k1244 L0) (by decide) rfl rfl) ?_
  refine XS.go (s_imul rfl) ?_
  refine XS.go (s_iast rfl (LY.lt L0 (by decide)) (LY.k1254 L0) (inN (k := 0) (LY.n1254 L0) rfl (by decide) (by decide))) ?_
  refine XS.go (s_aloadn rfl rfl rfl) ?_
  refine XS.go (s_getr rfl xf0_60 (LY.lt (by simp only [LY_si, LY_sj]; exact L0) (by decide)) (LY.k1244 (by simp only [LY_si, LY_sj]; exact L0)) (by decide) rfl (LY.r1244_14 (by simp only [LY_si, LY_sj]; exact L0))) ?_
  refine XS.go (s_iconst (v := 1) rfl rfl) ?_
  refine XS.go (s_iloadn rfl rfl rfl) ?_
  refine XS.go (s_aloadn rfl rfl rfl) ?_
  refine XS.go (s_getie rfl xf0_50 (LY.lt (by simp only [LY_si, LY_sj]; exact L0) (by decide)) (LY.k1244 (by simp only [LY_si, LY_sj]; exact L0)) (by decide) rfl (hi_hsi_na (by decide))) ?_
  refine XS.go (s_isub rfl) ?_
  refine XS.go (s_iast rfl (LY.lt (by simp only [LY_si, LY_sj]; exact L0) (by decide)) (LY.k1254 (by simp only [LY_si, LY_sj]; exact L0)) (inN (k := 1) (LY.n1254 (by simp only [LY_si, LY_sj]; exact L0)) rfl (by decide) (by decide))) ?_
  cases hf
  exact XR.retv rfl rfl (fun hret => ⟨_, hret, ⟨rfl, rfl⟩, (by simp only [LY_si, LY_sj]; exact L0)⟩)
def b_u_prepareList_81 (K7 : Int32 → Int32 → XH → Option (Unit × XH)) (x1 : Int32) (x2 : Int32) (y1 : Int32) (h : XH) : Option (Unit × XH) := (K7 x1 (x2 + 1) (hsi h 1244 15 y1))
set_option maxRecDepth 20000 in
theorem kb_u_prepareList_81 {l : Launch} {G : XG} {d : Nat} {K7 : Int32 → Int32 → XH → Option (Unit × XH)} {x1 : Int32} {x2 : Int32} {y1 : Int32} {h : XH} {r : Unit × XH} (hK7 : ∀ (x1 : Int32) (x2 : Int32) (h : XH), LY h → K7 x1 x2 h = some r → XR l G xEX0_prepareList d (7, [some (.ref 1244), some (.int x1), some (.int x2), none], [], h) (fun C => ∃ v, xRet xEX0_prepareList C v ∧ (C.2.2.2 = r.2 ∧ v = none) ∧ LY r.2)) (L0 : LY h) (hf : b_u_prepareList_81 K7 x1 x2 y1 h = some r) : XR l G xEX0_prepareList d (81, [some (.ref 1244), some (.int x1), some (.int x2), none], [(.int y1), (.ref 1244)], h) (fun C => ∃ v, xRet xEX0_prepareList C v ∧ (C.2.2.2 = r.2 ∧ v = none) ∧ LY r.2) := by
  unfold b_u_prepareList_81 at hf
  refine XS.go (s_puti rfl xf0_63 (LY.lt L0 (by decide)) (LY.k1244 L0) (by decide) rfl (Or.inl rfl)) ?_
  refine XS.go (s_inc rfl rfl (Nat.le_of_ble_eq_true rfl)) ?_
  refine XS.go (s_goto (tgt := 7) rfl rfl) ?_
  exact XR.forget (L2 := [some (.ref 1244), some (.int x1), some (.int (x2 + 1)), none]) ⟨rfl, ⟨rfl, ⟨rfl, trivial⟩⟩⟩ (hK7 x1 (x2 + 1) _ (by simp only [LY_si, LY_sj]; exact L0) hf)
def b_u_prepareList_65 (K7 : Int32 → Int32 → XH → Option (Unit × XH)) (x1 : Int32) (x2 : Int32) (x3 : Int32) (y1 : Int32) (y2 : Int32) (h : XH) : Option (Unit × XH) := (if 0 ≤ y1 ∧ y1 < nI 34 then (if x3 = 0 then (b_u_prepareList_81 K7 x1 x2 (hi h 1244 15) (hsi h 1254 (Int32.toNatClampNeg y1) y2)) else (b_u_prepareList_81 K7 x1 x2 (x2 + 3) (hsi h 1254 (Int32.toNatClampNeg y1) y2))) else none)
set_option maxRecDepth 20000 in
theorem kb_u_prepareList_65 {l : Launch} {G : XG} {d : Nat} {K7 : Int32 → Int32 → XH → Option (Unit × XH)} {x1 : Int32} {x2 : Int32} {x3 : Int32} {y1 : Int32} {y2 : Int32} {h : XH} {r : Unit × XH} (hK7 : ∀ (x1 : Int32) (x2 : Int32) (h : XH), LY h → K7 x1 x2 h = some r → XR l G xEX0_prepareList d (7, [some (.ref 1244), some (.int x1), some (.int x2), none], [], h) (fun C => ∃ v, xRet xEX0_prepareList C v ∧ (C.2.2.2 = r.2 ∧ v = none) ∧ LY r.2)) (L0 : LY h) (hf : b_u_prepareList_65 K7 x1 x2 x3 y1 y2 h = some r) : XR l G xEX0_prepareList d (65, [some (.ref 1244), some (.int x1), some (.int x2), some (.int x3)], [(.int y2), (.int y1), (.ref 1254)], h) (fun C => ∃ v, xRet xEX0_prepareList C v ∧ (C.2.2.2 = r.2 ∧ v = none) ∧ LY r.2) := by
  unfold b_u_prepareList_65 at hf
  by_cases qk1 : 0 ≤ y1 ∧ y1 < nI 34
  rotate_left
  · rw [if_neg qk1] at hf; cases hf
  rw [if_pos qk1] at hf
  refine XS.go (s_iast rfl (LY.lt L0 (by decide)) (LY.k1254 L0) (inLit (LY.n1254 L0) qk1.1 qk1.2 (by decide))) ?_
  refine XS.go (s_aloadn rfl rfl rfl) ?_
  refine XS.go (s_iloadn rfl rfl rfl) ?_
  refine r_if_eq (tgt := 77) rfl rfl (fun qc2 => ?_) (fun qc2 => ?_)
  · rw [if_pos qc2] at hf
    refine XS.go (s_aloadn rfl rfl rfl) ?_
    refine XS.go (s_getie rfl xf0_63 (LY.lt (by simp only [LY_si, LY_sj]; exact L0) (by decide)) (LY.k1244 (by simp only [LY_si, LY_sj]; exact L0)) (by decide) rfl (hi_hsi_na (by decide))) ?_
    exact XR.forget (L2 := [some (.ref 1244), some (.int x1), some (.int x2), none]) ⟨rfl, ⟨rfl, ⟨rfl, trivial⟩⟩⟩ (kb_u_prepareList_81 hK7 (by simp only [LY_si, LY_sj]; exact L0) hf)
  · rw [if_neg qc2] at hf
    refine XS.go (s_iloadn rfl rfl rfl) ?_
    refine XS.go (s_iconst (v := 3) rfl rfl) ?_
    refine XS.go (s_iadd rfl) ?_
    refine XS.go (s_goto (tgt := 81) rfl rfl) ?_
    exact XR.forget (L2 := [some (.ref 1244), some (.int x1), some (.int x2), none]) ⟨rfl, ⟨rfl, ⟨rfl, trivial⟩⟩⟩ (kb_u_prepareList_81 hK7 (by simp only [LY_si, LY_sj]; exact L0) hf)
def b_u_prepareList_41 (K7 : Int32 → Int32 → XH → Option (Unit × XH)) (x1 : Int32) (x2 : Int32) (y0 : Int32) (h : XH) : Option (Unit × XH) := (if y0 = 0 then (b_u_prepareList_65 K7 x1 x2 y0 (x2 + 2) 0 h) else (if 0 ≤ x2 ∧ x2 < nI 32 then (b_u_prepareList_65 K7 x1 x2 y0 (x2 + 2) (x1 - (hi h 1253 (Int32.toNatClampNeg x2))) h) else none))
set_option maxRecDepth 20000 in
theorem kb_u_prepareList_41 {l : Launch} {G : XG} {d : Nat} {K7 : Int32 → Int32 → XH → Option (Unit × XH)} {x1 : Int32} {x2 : Int32} {y0 : Int32} {h : XH} {r : Unit × XH} (hK7 : ∀ (x1 : Int32) (x2 : Int32) (h : XH), LY h → K7 x1 x2 h = some r → XR l G xEX0_prepareList d (7, [some (.ref 1244), some (.int x1), some (.int x2), none], [], h) (fun C => ∃ v, xRet xEX0_prepareList C v ∧ (C.2.2.2 = r.2 ∧ v = none) ∧ LY r.2)) (L0 : LY h) (hf : b_u_prepareList_41 K7 x1 x2 y0 h = some r) : XR l G xEX0_prepareList d (41, [some (.ref 1244), some (.int x1), some (.int x2), none], [(.int y0)], h) (fun C => ∃ v, xRet xEX0_prepareList C v ∧ (C.2.2.2 = r.2 ∧ v = none) ∧ LY r.2) := by
  unfold b_u_prepareList_41 at hf
  refine XS.go (s_istoren rfl rfl (Nat.le_of_ble_eq_true rfl)) ?_
  refine XS.go (s_aloadn rfl rfl rfl) ?_
  refine XS.go (s_getr rfl xf0_60 (LY.lt L0 (by decide)) (LY.k1244 L0) (by decide) rfl (LY.r1244_14 L0)) ?_
  refine XS.go (s_iloadn rfl rfl rfl) ?_
  refine XS.go (s_iconst (v := 2) rfl rfl) ?_
  refine XS.go (s_iadd rfl) ?_
  refine XS.go (s_iloadn rfl rfl rfl) ?_
  refine r_if_eq (tgt := 64) rfl rfl (fun qc3 => ?_) (fun qc3 => ?_)
  · rw [if_pos qc3] at hf
    refine XS.go (s_iconst (v := 0) rfl rfl) ?_
    exact XR.forget (L2 := [some (.ref 1244), some (.int x1), some (.int x2), some (.int y0)]) ⟨rfl, ⟨rfl, ⟨rfl, ⟨rfl, trivial⟩⟩⟩⟩ (kb_u_prepareList_65 hK7 L0 hf)
  · rw [if_neg qc3] at hf
    refine XS.go (s_iloadn rfl rfl rfl) ?_
    refine XS.go (s_aloadn rfl rfl rfl) ?_
    refine XS.go (s_getr rfl xf0_57 (LY.lt L0 (by decide)) (LY.k1244 L0) (by decide) rfl (LY.r1244_13 L0)) ?_
    refine XS.go (s_iloadn rfl rfl rfl) ?_
    by_cases qk4 : 0 ≤ x2 ∧ x2 < nI 32
    rotate_left
    · rw [if_neg qk4] at hf; cases hf
    rw [if_pos qk4] at hf
    refine XS.go (s_ialde rfl (LY.lt L0 (by decide)) (LY.k1253 L0) (inLit (LY.n1253 L0) qk4.1 qk4.2 (by decide)) rfl) ?_
    refine XS.go (s_isub rfl) ?_
    refine XS.go (s_goto (tgt := 65) rfl rfl) ?_
    exact XR.forget (L2 := [some (.ref 1244), some (.int x1), some (.int x2), some (.int y0)]) ⟨rfl, ⟨rfl, ⟨rfl, ⟨rfl, trivial⟩⟩⟩⟩ (kb_u_prepareList_65 hK7 L0 hf)
def s_u_prepareList_7 (K7 : Int32 → Int32 → XH → Option (Unit × XH)) (x1 : Int32) (x2 : Int32) (h : XH) : Option (Unit × XH) := (if (nI 32) ≤ x2 then (b_u_prepareList_90 x1 h) else (if (nI 34) ≤ (x2 + 2) then (b_u_prepareList_90 x1 h) else (if 0 ≤ x2 ∧ x2 < nI 32 then (if (hi h 1253 (Int32.toNatClampNeg x2)) = 0 then (b_u_prepareList_41 K7 x1 x2 0 h) else (b_u_prepareList_41 K7 x1 x2 1 h)) else none)))
set_option maxRecDepth 20000 in
theorem ks_u_prepareList_7 {l : Launch} {G : XG} {d : Nat} {K7 : Int32 → Int32 → XH → Option (Unit × XH)} {x1 : Int32} {x2 : Int32} {h : XH} {r : Unit × XH} (hK7 : ∀ (x1 : Int32) (x2 : Int32) (h : XH), LY h → K7 x1 x2 h = some r → XR l G xEX0_prepareList d (7, [some (.ref 1244), some (.int x1), some (.int x2), none], [], h) (fun C => ∃ v, xRet xEX0_prepareList C v ∧ (C.2.2.2 = r.2 ∧ v = none) ∧ LY r.2)) (L0 : LY h) (hf : s_u_prepareList_7 K7 x1 x2 h = some r) : XR l G xEX0_prepareList d (7, [some (.ref 1244), some (.int x1), some (.int x2), none], [], h) (fun C => ∃ v, xRet xEX0_prepareList C v ∧ (C.2.2.2 = r.2 ∧ v = none) ∧ LY r.2) := by
  unfold s_u_prepareList_7 at hf
  refine XS.go (s_iloadn rfl rfl rfl) ?_
  refine XS.go (s_aloadn rfl rfl rfl) ?_
  refine XS.go (s_getr rfl xf0_57 (LY.lt L0 (by decide)) (LY.k1244 L0) (by decide) rfl (LY.r1244_13 L0)) ?_
  refine XS.go (s_alene rfl (LY.lt L0 (by decide)) (LY.k1253 L0) (LY.n1253 L0) (by decide)) ?_
  refine r_icmp_ge (tgt := 90) rfl rfl (fun qc5 => ?_) (fun qc5 => ?_)
  · rw [if_pos qc5] at hf
    exact XR.forget (L2 := [some (.ref 1244), some (.int x1), none, none]) ⟨rfl, ⟨rfl, trivial⟩⟩ (kb_u_prepareList_90 L0 hf)
  · rw [if_neg qc5] at hf
    refine XS.go (s_iloadn rfl rfl rfl) ?_
    refine XS.go (s_iconst (v := 2) rfl rfl) ?_
    refine XS.go (s_iadd rfl) ?_
    refine XS.go (s_aloadn rfl rfl rfl) ?_
    refine XS.go (s_getr rfl xf0_60 (LY.lt L0 (by decide)) (LY.k1244 L0) (by decide) rfl (LY.r1244_14 L0)) ?_
    refine XS.go (s_alene rfl (LY.lt L0 (by decide)) (LY.k1254 L0) (LY.n1254 L0) (by decide)) ?_
    refine r_icmp_ge (tgt := 90) rfl rfl (fun qc6 => ?_) (fun qc6 => ?_)
    · rw [if_pos qc6] at hf
      exact XR.forget (L2 := [some (.ref 1244), some (.int x1), none, none]) ⟨rfl, ⟨rfl, trivial⟩⟩ (kb_u_prepareList_90 L0 hf)
    · rw [if_neg qc6] at hf
      refine XS.go (s_aloadn rfl rfl rfl) ?_
      refine XS.go (s_getr rfl xf0_57 (LY.lt L0 (by decide)) (LY.k1244 L0) (by decide) rfl (LY.r1244_13 L0)) ?_
      refine XS.go (s_iloadn rfl rfl rfl) ?_
      by_cases qk7 : 0 ≤ x2 ∧ x2 < nI 32
      rotate_left
      · rw [if_neg qk7] at hf; cases hf
      rw [if_pos qk7] at hf
      refine XS.go (s_ialde rfl (LY.lt L0 (by decide)) (LY.k1253 L0) (inLit (LY.n1253 L0) qk7.1 qk7.2 (by decide)) rfl) ?_
      refine r_if_eq (tgt := 40) rfl rfl (fun qc8 => ?_) (fun qc8 => ?_)
      · rw [if_pos qc8] at hf
        refine XS.go (s_iconst (v := 0) rfl rfl) ?_
        exact XR.forget (L2 := [some (.ref 1244), some (.int x1), some (.int x2), none]) ⟨rfl, ⟨rfl, ⟨rfl, trivial⟩⟩⟩ (kb_u_prepareList_41 hK7 L0 hf)
      · rw [if_neg qc8] at hf
        refine XS.go (s_iconst (v := 1) rfl rfl) ?_
        refine XS.go (s_goto (tgt := 41) rfl rfl) ?_
        exact XR.forget (L2 := [some (.ref 1244), some (.int x1), some (.int x2), none]) ⟨rfl, ⟨rfl, ⟨rfl, trivial⟩⟩⟩ (kb_u_prepareList_41 hK7 L0 hf)
def b_u_prepareList_7 : Nat → Int32 → Int32 → XH → Option (Unit × XH)
  | 0, _, _, _ => none
  | n + 1, x1, x2, h => s_u_prepareList_7 (b_u_prepareList_7 n) x1 x2 h
theorem kb_u_prepareList_7 {l : Launch} {G : XG} {d : Nat} {n : Nat} {x1 : Int32} {x2 : Int32} {h : XH} {r : Unit × XH} (L0 : LY h) (hf : b_u_prepareList_7 n x1 x2 h = some r) : XR l G xEX0_prepareList d (7, [some (.ref 1244), some (.int x1), some (.int x2), none], [], h) (fun C => ∃ v, xRet xEX0_prepareList C v ∧ (C.2.2.2 = r.2 ∧ v = none) ∧ LY r.2) := by
  induction n generalizing x1 x2 h with
  | zero => cases hf
  | succ n ih => exact ks_u_prepareList_7 (fun x1 x2 h L0 hf => ih (h := h) (x1 := x1) (x2 := x2) L0 hf) L0 hf
def f_u_prepareList (a0 : Int32) (h : XH) : Option (Unit × XH) := (b_u_prepareList_7 100000 a0 0 (hsi h 1244 15 2))
set_option maxRecDepth 20000 in
theorem kf_u_prepareList {l : Launch} {G : XG} {d : Nat} {a0 : Int32} {h : XH} {r : Unit × XH} (L0 : LY h) (hf : f_u_prepareList a0 h = some r) : XC l G xEX0_prepareList d [.ref 1244, .int a0] h (fun v h2 => (h2 = r.2 ∧ v = none) ∧ LY r.2) := by
  refine XC.virt xvX0_prepareList (Nat.le_of_ble_eq_true rfl) ?_
  unfold f_u_prepareList at hf
  refine XS.go (s_aloadn rfl rfl rfl) ?_
  refine XS.go (s_iconst (v := 2) rfl rfl) ?_
  refine XS.go (s_puti rfl xf0_63 (LY.lt L0 (by decide)) (LY.k1244 L0) (by decide) rfl (Or.inl rfl)) ?_
  refine XS.go (s_iconst (v := 0) rfl rfl) ?_
  refine XS.go (s_istoren rfl rfl (Nat.le_of_ble_eq_true rfl)) ?_
  exact XR.forget (L2 := [some (.ref 1244), some (.int a0), some (.int 0), none]) ⟨rfl, ⟨rfl, ⟨rfl, trivial⟩⟩⟩ (kb_u_prepareList_7 (by simp only [LY_si, LY_sj]; exact L0) hf)
def b_u_putList_99 (h : XH) : Option (Int32 × XH) := (some ((hi h 1244 1), h))
set_option maxRecDepth 20000 in
theorem kb_u_putList_99 {l : Launch} {G : XG} {d : Nat} {h : XH} {r : Int32 × XH} (L0 : LY h) (hf : b_u_putList_99 h = some r) : XR l G xEX0_putList (d + 2) (99, [some (.ref 1244), none, none], [], h) (fun C => ∃ v, xRet xEX0_putList C v ∧ (C.2.2.2 = r.2 ∧ v = some (.int r.1)) ∧ LY r.2) := by
  unfold b_u_putList_99 at hf
  refine XS.go (s_aloadn rfl rfl rfl) ?_
  refine XS.go (s_getie rfl xf0_18 (LY.lt L0 (by decide)) (LY.k1244 L0) (by decide) rfl rfl) ?_
  cases hf
  exact XR.reti rfl rfl (fun hret => ⟨_, hret, ⟨rfl, rfl⟩, L0⟩)
def b_u_putList_57 (h : XH) : Option (Int32 × XH) := (if (hi h 1244 9) < 0 then (b_u_putList_99 h) else (if (nI 300) ≤ (hi h 1244 9) then (b_u_putList_99 h) else (b_u_putList_99 (hsi (hsi h 1251 (Int32.toNatClampNeg (hi h 1244 9)) (hi h 1244 1)) 1244 9 ((hi h 1244 9) + 1)))))
set_option maxRecDepth 20000 in
theorem kb_u_putList_57 {l : Launch} {G : XG} {d : Nat} {h : XH} {r : Int32 × XH} (L0 : LY h) (hf : b_u_putList_57 h = some r) : XR l G xEX0_putList (d + 2) (57, [some (.ref 1244), none, none], [], h) (fun C => ∃ v, xRet xEX0_putList C v ∧ (C.2.2.2 = r.2 ∧ v = some (.int r.1)) ∧ LY r.2) := by
  unfold b_u_putList_57 at hf
  refine XS.go (s_aloadn rfl rfl rfl) ?_
  refine XS.go (s_getie rfl xf0_44 (LY.lt L0 (by decide)) (LY.k1244 L0) (by decide) rfl rfl) ?_
  refine r_if_lt (tgt := 99) rfl rfl (fun qc1 => ?_) (fun qc1 => ?_)
  · rw [if_pos qc1] at hf
    exact XR.forget (L2 := [some (.ref 1244), none, none]) ⟨rfl, trivial⟩ (kb_u_putList_99 L0 hf)
  · rw [if_neg qc1] at hf
    refine XS.go (s_aloadn rfl rfl rfl) ?_
    refine XS.go (s_getie rfl xf0_44 (LY.lt L0 (by decide)) (LY.k1244 L0) (by decide) rfl rfl) ?_
    refine XS.go (s_aloadn rfl rfl rfl) ?_
    refine XS.go (s_getr rfl xf0_41 (LY.lt L0 (by decide)) (LY.k1244 L0) (by decide) rfl (LY.r1244_8 L0)) ?_
    refine XS.go (s_alene rfl (LY.lt L0 (by decide)) (LY.k1251 L0) (LY.n1251 L0) (by decide)) ?_
    refine r_icmp_ge (tgt := 99) rfl rfl (fun qc2 => ?_) (fun qc2 => ?_)
    · rw [if_pos qc2] at hf
      exact XR.forget (L2 := [some (.ref 1244), none, none]) ⟨rfl, trivial⟩ (kb_u_putList_99 L0 hf)
    · rw [if_neg qc2] at hf
      refine XS.go (s_aloadn rfl rfl rfl) ?_
      refine XS.go (s_getr rfl xf0_41 (LY.lt L0 (by decide)) (LY.k1244 L0) (by decide) rfl (LY.r1244_8 L0)) ?_
      refine XS.go (s_aloadn rfl rfl rfl) ?_
      refine XS.go (s_getie rfl xf0_44 (LY.lt L0 (by decide)) (LY.k1244 L0) (by decide) rfl rfl) ?_
      refine XS.go (s_aloadn rfl rfl rfl) ?_
      refine XS.go (s_getie rfl xf0_18 (LY.lt L0 (by decide)) (LY.k1244 L0) (by decide) rfl rfl) ?_
      refine XS.go (s_iast rfl (LY.lt L0 (by decide)) (LY.k1251 L0) (in_of (N := 300) (LY.n1251 L0) (by decide) qc1 qc2)) ?_
      refine XS.go (s_aloadn rfl rfl rfl) ?_
      refine XS.go (s_dup rfl rfl) ?_
      refine XS.go (s_getie rfl xf0_44 (LY.lt (by simp only [LY_si, LY_sj]; exact L0) (by decide)) (LY.k1244 (by simp only [LY_si, LY_sj]; exact L0)) (by decide) rfl (hi_hsi_na (by decide))) ?_
      refine XS.go (s_iconst (v := 1) rfl rfl) ?_
      refine XS.go (s_iadd rfl) ?_
      refine XS.go (s_puti rfl xf0_44 (LY.lt (by simp only [LY_si, LY_sj]; exact L0) (by decide)) (LY.k1244 (by simp only [LY_si, LY_sj]; exact L0)) (by decide) rfl (Or.inl rfl)) ?_
      exact XR.forget (L2 := [some (.ref 1244), none, none]) ⟨rfl, trivial⟩ (kb_u_putList_99 (by simp only [LY_si, LY_sj]; exact L0) hf)
def s_u_putList_14 (K14 : Int32 → Int32 → XH → Option (Int32 × XH)) (x1 : Int32) (x2 : Int32) (h : XH) : Option (Int32 × XH) := (if (hi h 1244 15) ≤ x2 then (b_u_putList_57 h) else (if (nI 34) ≤ x2 then (b_u_putList_57 h) else (if 0 ≤ x2 ∧ x2 < nI 34 then (match f_b_putNumber 1245 (x1 + (2 * x2)) 2 (Int32.toInt64 (hi h 1254 (Int32.toNatClampNeg x2))) h with | none => none | some r6 => (K14 x1 (x2 + 1) r6.2)) else none)))
set_option maxRecDepth 20000 in
theorem ks_u_putList_14 {l : Launch} {G : XG} {d : Nat} {K14 : Int32 → Int32 → XH → Option (Int32 × XH)} {x1 : Int32} {x2 : Int32} {h : XH} {r : Int32 × XH} (hK14 : ∀ (x1 : Int32) (x2 : Int32) (h : XH), LY h → K14 x1 x2 h = some r → XR l G xEX0_putList (d + 2) (14, [some (.ref 1244), some (.int x1), some (.int x2)], [], h) (fun C => ∃ v, xRet xEX0_putList C v ∧ (C.2.2.2 = r.2 ∧ v = some (.int r.1)) ∧ LY r.2)) (L0 : LY h) (hf : s_u_putList_14 K14 x1 x2 h = some r) : XR l G xEX0_putList (d + 2) (14, [some (.ref 1244), some (.int x1), some (.int x2)], [], h) (fun C => ∃ v, xRet xEX0_putList C v ∧ (C.2.2.2 = r.2 ∧ v = some (.int r.1)) ∧ LY r.2) := by
  unfold s_u_putList_14 at hf
  refine XS.go (s_iloadn rfl rfl rfl) ?_
  refine XS.go (s_aloadn rfl rfl rfl) ?_
  refine XS.go (s_getie rfl xf0_63 (LY.lt L0 (by decide)) (LY.k1244 L0) (by decide) rfl rfl) ?_
  refine r_icmp_ge (tgt := 57) rfl rfl (fun qc3 => ?_) (fun qc3 => ?_)
  · rw [if_pos qc3] at hf
    exact XR.forget (L2 := [some (.ref 1244), none, none]) ⟨rfl, trivial⟩ (kb_u_putList_57 L0 hf)
  · rw [if_neg qc3] at hf
    refine XS.go (s_iloadn rfl rfl rfl) ?_
    refine XS.go (s_aloadn rfl rfl rfl) ?_
    refine XS.go (s_getr rfl xf0_60 (LY.lt L0 (by decide)) (LY.k1244 L0) (by decide) rfl (LY.r1244_14 L0)) ?_
    refine XS.go (s_alene rfl (LY.lt L0 (by decide)) (LY.k1254 L0) (LY.n1254 L0) (by decide)) ?_
    refine r_icmp_ge (tgt := 57) rfl rfl (fun qc4 => ?_) (fun qc4 => ?_)
    · rw [if_pos qc4] at hf
      exact XR.forget (L2 := [some (.ref 1244), none, none]) ⟨rfl, trivial⟩ (kb_u_putList_57 L0 hf)
    · rw [if_neg qc4] at hf
      refine XS.go (s_aloadn rfl rfl rfl) ?_
      refine XS.go (s_getr rfl xf0_12 (LY.lt L0 (by decide)) (LY.k1244 L0) (by decide) rfl (LY.r1244_0 L0)) ?_
      refine XS.go (s_iloadn rfl rfl rfl) ?_
      refine XS.go (s_iconst (v := 2) rfl rfl) ?_
      refine XS.go (s_iloadn rfl rfl rfl) ?_
      refine XS.go (s_imul rfl) ?_
      refine XS.go (s_iadd rfl) ?_
      refine XS.go (s_iconst (v := 2) rfl rfl) ?_
      refine XS.go (s_aloadn rfl rfl rfl) ?_
      refine XS.go (s_getr rfl xf0_60 (LY.lt L0 (by decide)) (LY.k1244 L0) (by decide) rfl (LY.r1244_14 L0)) ?_
      refine XS.go (s_iloadn rfl rfl rfl) ?_
      by_cases qk5 : 0 ≤ x2 ∧ x2 < nI 34
      rotate_left
      · rw [if_neg qk5] at hf; cases hf
      rw [if_pos qk5] at hf
      refine XS.go (s_ialde rfl (LY.lt L0 (by decide)) (LY.k1254 L0) (inLit (LY.n1254 L0) qk5.1 qk5.2 (by decide)) rfl) ?_
      refine XS.go (s_i2l rfl) ?_
      rcases e7 : f_b_putNumber 1245 (x1 + (2 * x2)) 2 (Int32.toInt64 (hi h 1254 (Int32.toNatClampNeg x2))) h with _ | r6
      · rw [e7] at hf; cases hf
      rw [e7] at hf; dsimp only at hf
      refine r_callv rfl xvX1_putNumber xm0_100 (kf_b_putNumber (d := d) L0 e7) (LY.lt L0 (by decide)) (LY.k1245 L0) (by decide) rfl rfl (by omega) (by decide) (Nat.le_of_ble_eq_true rfl) ?_
      rintro _ _ ⟨⟨rfl, rfl⟩, L8⟩
      refine XS.go (s_inc rfl rfl (Nat.le_of_ble_eq_true rfl)) ?_
      refine XS.go (s_goto (tgt := 14) rfl rfl) ?_
      exact XR.forget (L2 := [some (.ref 1244), some (.int x1), some (.int (x2 + 1))]) ⟨rfl, ⟨rfl, ⟨rfl, trivial⟩⟩⟩ (hK14 x1 (x2 + 1) _ L8 hf)
def b_u_putList_14 : Nat → Int32 → Int32 → XH → Option (Int32 × XH)
  | 0, _, _, _ => none
  | n + 1, x1, x2, h => s_u_putList_14 (b_u_putList_14 n) x1 x2 h
theorem kb_u_putList_14 {l : Launch} {G : XG} {d : Nat} {n : Nat} {x1 : Int32} {x2 : Int32} {h : XH} {r : Int32 × XH} (L0 : LY h) (hf : b_u_putList_14 n x1 x2 h = some r) : XR l G xEX0_putList (d + 2) (14, [some (.ref 1244), some (.int x1), some (.int x2)], [], h) (fun C => ∃ v, xRet xEX0_putList C v ∧ (C.2.2.2 = r.2 ∧ v = some (.int r.1)) ∧ LY r.2) := by
  induction n generalizing x1 x2 h with
  | zero => cases hf
  | succ n ih => exact ks_u_putList_14 (fun x1 x2 h L0 hf => ih (h := h) (x1 := x1) (x2 := x2) L0 hf) L0 hf
def f_u_putList (h : XH) : Option (Int32 × XH) := (match f_u_grow (2 * (hi h 1244 15)) 2 h with | none => none | some r9 => (b_u_putList_14 100000 r9.1 0 r9.2))
set_option maxRecDepth 20000 in
theorem kf_u_putList {l : Launch} {G : XG} {d : Nat} {h : XH} {r : Int32 × XH} (L0 : LY h) (hf : f_u_putList h = some r) : XC l G xEX0_putList (d + 2) [.ref 1244] h (fun v h2 => (h2 = r.2 ∧ v = some (.int r.1)) ∧ LY r.2) := by
  refine XC.virt xvX0_putList (Nat.le_of_ble_eq_true rfl) ?_
  unfold f_u_putList at hf
  refine XS.go (s_aloadn rfl rfl rfl) ?_
  refine XS.go (s_iconst (v := 2) rfl rfl) ?_
  refine XS.go (s_aloadn rfl rfl rfl) ?_
  refine XS.go (s_getie rfl xf0_63 (LY.lt L0 (by decide)) (LY.k1244 L0) (by decide) rfl rfl) ?_
  refine XS.go (s_imul rfl) ?_
  refine XS.go (s_iconst (v := 2) rfl rfl) ?_
  rcases e10 : f_u_grow (2 * (hi h 1244 15)) 2 h with _ | r9
  · rw [e10] at hf; cases hf
  rw [e10] at hf; dsimp only at hf
  refine r_callv rfl xvX0_grow xm0_107 (kf_u_grow (d := d) L0 e10) (LY.lt L0 (by decide)) (LY.k1244 L0) (by decide) rfl rfl (by omega) (by decide) (Nat.le_of_ble_eq_true rfl) ?_
  rintro _ _ ⟨⟨rfl, rfl⟩, L11⟩
  refine XS.go (s_istoren rfl rfl (Nat.le_of_ble_eq_true rfl)) ?_
  refine XS.go (s_iconst (v := 0) rfl rfl) ?_
  refine XS.go (s_istoren rfl rfl (Nat.le_of_ble_eq_true rfl)) ?_
  exact XR.forget (L2 := [some (.ref 1244), some (.int r9.1), some (.int 0)]) ⟨rfl, ⟨rfl, ⟨rfl, trivial⟩⟩⟩ (kb_u_putList_14 L11 hf)
def s_b_number_26 (K26 : Nat → Int32 → Int64 → Int32 → XH → Option (Int64 × XH)) (x0 : Nat) (x1 : Int32) (x3 : Int64) (x5 : Int32) (h : XH) : Option (Int64 × XH) := (if x5 < x1 then (some (x3, h)) else (if x0 < hz h ∧ hk h x0 = 1 then (match hr h x0 0 with | none => none | some b3 => (if b3 < hz h ∧ hk h b3 = 102 then (if 0 ≤ x5 ∧ x5 < nI (hn h b3) ∧ (hn h b3) < 2 ^ 31 then (K26 x0 x1 ((x3 <<< ((Int32.toInt64 8) &&& 63)) ||| (Int32.toInt64 ((hi h b3 (Int32.toNatClampNeg x5)) &&& 255))) (x5 + (-1)) h) else none) else none)) else none))
set_option maxRecDepth 20000 in
theorem ks_b_number_26 {l : Launch} {G : XG} {d : Nat} {K26 : Nat → Int32 → Int64 → Int32 → XH → Option (Int64 × XH)} {x0 : Nat} {x1 : Int32} {x3 : Int64} {x5 : Int32} {h : XH} {r : Int64 × XH} (hK26 : ∀ (x0 : Nat) (x1 : Int32) (x3 : Int64) (x5 : Int32) (h : XH), LY h → K26 x0 x1 x3 x5 h = some r → XR l G xEX1_number d (26, [some (.ref x0), some (.int x1), none, some (.long x3), none, some (.int x5)], [], h) (fun C => ∃ v, xRet xEX1_number C v ∧ (C.2.2.2 = r.2 ∧ v = some (.long r.1)) ∧ LY r.2)) (L0 : LY h) (hf : s_b_number_26 K26 x0 x1 x3 x5 h = some r) : XR l G xEX1_number d (26, [some (.ref x0), some (.int x1), none, some (.long x3), none, some (.int x5)], [], h) (fun C => ∃ v, xRet xEX1_number C v ∧ (C.2.2.2 = r.2 ∧ v = some (.long r.1)) ∧ LY r.2) := by
  unfold s_b_number_26 at hf
  refine XS.go (s_iload rfl rfl) ?_
  refine XS.go (s_iloadn rfl rfl rfl) ?_
  refine r_icmp_lt (tgt := 56) rfl rfl (fun qc1 => ?_) (fun qc1 => ?_)
  · rw [if_pos qc1] at hf
    refine XS.go (s_lloadn rfl rfl rfl) ?_
    cases hf
    exact XR.retl rfl rfl (fun hret => ⟨_, hret, ⟨rfl, rfl⟩, L0⟩)
  · rw [if_neg qc1] at hf
    refine XS.go (s_lloadn rfl rfl rfl) ?_
    refine XS.go (s_bipush (v := 8) rfl rfl) ?_
    refine XS.go (s_lshl rfl) ?_
    refine XS.go (s_aloadn rfl rfl rfl) ?_
    by_cases qk2 : x0 < hz h ∧ hk h x0 = 1
    rotate_left
    · rw [if_neg qk2] at hf; cases hf
    rw [if_pos qk2] at hf
    rcases qr4 : hr h x0 0 with _ | b3
    · rw [qr4] at hf; cases hf
    rw [qr4] at hf; dsimp only at hf
    refine XS.go (s_getr rfl xf1_9 qk2.1 qk2.2 (by decide) rfl qr4) ?_
    refine XS.go (s_iload rfl rfl) ?_
    by_cases qk5 : b3 < hz h ∧ hk h b3 = 102
    rotate_left
    · rw [if_neg qk5] at hf; cases hf
    rw [if_pos qk5] at hf
    by_cases qk6 : 0 ≤ x5 ∧ x5 < nI (hn h b3) ∧ (hn h b3) < 2 ^ 31
    rotate_left
    · rw [if_neg qk6] at hf; cases hf
    rw [if_pos qk6] at hf
    refine XS.go (s_balde rfl qk5.1 qk5.2 (inLit (N := hn h b3) rfl qk6.1 qk6.2.1 qk6.2.2) rfl) ?_
    refine XS.go (s_sipush (v := 255) rfl rfl) ?_
    refine XS.go (s_iand rfl) ?_
    refine XS.go (s_i2l rfl) ?_
    refine XS.go (s_lor rfl) ?_
    refine XS.go (s_lstoren rfl rfl (Nat.le_of_ble_eq_true rfl)) ?_
    refine XS.go (s_dec rfl rfl (Nat.le_of_ble_eq_true rfl)) ?_
    refine XS.go (s_goto (tgt := 26) rfl rfl) ?_
    exact XR.forget (L2 := [some (.ref x0), some (.int x1), none, some (.long ((x3 <<< ((Int32.toInt64 8) &&& 63)) ||| (Int32.toInt64 ((hi h b3 (Int32.toNatClampNeg x5)) &&& 255)))), none, some (.int (x5 + (-1)))]) ⟨rfl, ⟨rfl, ⟨rfl, ⟨rfl, trivial⟩⟩⟩⟩ (hK26 x0 x1 ((x3 <<< ((Int32.toInt64 8) &&& 63)) ||| (Int32.toInt64 ((hi h b3 (Int32.toNatClampNeg x5)) &&& 255))) (x5 + (-1)) _ L0 hf)
def b_b_number_26 : Nat → Nat → Int32 → Int64 → Int32 → XH → Option (Int64 × XH)
  | 0, _, _, _, _, _ => none
  | n + 1, x0, x1, x3, x5, h => s_b_number_26 (b_b_number_26 n) x0 x1 x3 x5 h
theorem kb_b_number_26 {l : Launch} {G : XG} {d : Nat} {n : Nat} {x0 : Nat} {x1 : Int32} {x3 : Int64} {x5 : Int32} {h : XH} {r : Int64 × XH} (L0 : LY h) (hf : b_b_number_26 n x0 x1 x3 x5 h = some r) : XR l G xEX1_number d (26, [some (.ref x0), some (.int x1), none, some (.long x3), none, some (.int x5)], [], h) (fun C => ∃ v, xRet xEX1_number C v ∧ (C.2.2.2 = r.2 ∧ v = some (.long r.1)) ∧ LY r.2) := by
  induction n generalizing x0 x1 x3 x5 h with
  | zero => cases hf
  | succ n ih => exact ks_b_number_26 (fun x0 x1 x3 x5 h L0 hf => ih (h := h) (x0 := x0) (x1 := x1) (x3 := x3) (x5 := x5) L0 hf) L0 hf
def f_b_number (t : Nat) (a0 : Int32) (a1 : Int32) (h : XH) : Option (Int64 × XH) := (if a0 < 0 then (some (0, h)) else (if t < hz h ∧ hk h t = 1 then (match hr h t 0 with | none => none | some b9 => (if b9 < hz h ∧ hk h b9 = 102 then (if a0 ≤ ((nI (hn h b9)) - a1) then (b_b_number_26 100000 t a0 0 ((a0 + a1) - 1) h) else (some (0, h))) else none)) else none))
set_option maxRecDepth 20000 in
theorem kf_b_number {l : Launch} {G : XG} {d : Nat} {t : Nat} {a0 : Int32} {a1 : Int32} {h : XH} {r : Int64 × XH} (L0 : LY h) (hf : f_b_number t a0 a1 h = some r) : XC l G xEX1_number d [.ref t, .int a0, .int a1] h (fun v h2 => (h2 = r.2 ∧ v = some (.long r.1)) ∧ LY r.2) := by
  refine XC.virt xvX1_number (Nat.le_of_ble_eq_true rfl) ?_
  unfold f_b_number at hf
  refine XS.go (s_iloadn rfl rfl rfl) ?_
  refine r_if_lt (tgt := 15) rfl rfl (fun qc7 => ?_) (fun qc7 => ?_)
  · rw [if_pos qc7] at hf
    refine XS.go (s_lconst (v := 0) rfl rfl) ?_
    cases hf
    exact XR.retl rfl rfl (fun hret => ⟨_, hret, ⟨rfl, rfl⟩, L0⟩)
  · rw [if_neg qc7] at hf
    refine XS.go (s_iloadn rfl rfl rfl) ?_
    refine XS.go (s_aloadn rfl rfl rfl) ?_
    by_cases qk8 : t < hz h ∧ hk h t = 1
    rotate_left
    · rw [if_neg qk8] at hf; cases hf
    rw [if_pos qk8] at hf
    rcases qr10 : hr h t 0 with _ | b9
    · rw [qr10] at hf; cases hf
    rw [qr10] at hf; dsimp only at hf
    refine XS.go (s_getr rfl xf1_9 qk8.1 qk8.2 (by decide) rfl qr10) ?_
    by_cases qk11 : b9 < hz h ∧ hk h b9 = 102
    rotate_left
    · rw [if_neg qk11] at hf; cases hf
    rw [if_pos qk11] at hf
    refine XS.go (s_alene rfl qk11.1 qk11.2 rfl (by decide)) ?_
    refine XS.go (s_iloadn rfl rfl rfl) ?_
    refine XS.go (s_isub rfl) ?_
    refine r_icmp_le (tgt := 17) rfl rfl (fun qc12 => ?_) (fun qc12 => ?_)
    · rw [if_pos qc12] at hf
      refine XS.go (s_lconst (v := 0) rfl rfl) ?_
      refine XS.go (s_lstoren rfl rfl (Nat.le_of_ble_eq_true rfl)) ?_
      refine XS.go (s_iloadn rfl rfl rfl) ?_
      refine XS.go (s_iloadn rfl rfl rfl) ?_
      refine XS.go (s_iadd rfl) ?_
      refine XS.go (s_iconst (v := 1) rfl rfl) ?_
      refine XS.go (s_isub rfl) ?_
      refine XS.go (s_istore rfl (Nat.le_of_ble_eq_true rfl)) ?_
      exact XR.forget (L2 := [some (.ref t), some (.int a0), none, some (.long 0), none, some (.int ((a0 + a1) - 1))]) ⟨rfl, ⟨rfl, ⟨rfl, ⟨rfl, trivial⟩⟩⟩⟩ (kb_b_number_26 L0 hf)
    · rw [if_neg qc12] at hf
      refine XS.go (s_lconst (v := 0) rfl rfl) ?_
      cases hf
      exact XR.retl rfl rfl (fun hret => ⟨_, hret, ⟨rfl, rfl⟩, L0⟩)
def s_u_isPreparedList_2 (K2 : Int32 → Int32 → XH → Option (Int32 × XH)) (x1 : Int32) (x2 : Int32) (h : XH) : Option (Int32 × XH) := (if (hi h 1244 15) ≤ x2 then (some (1, h)) else (if (nI 34) ≤ x2 then (some (1, h)) else (match f_b_number 1245 (x1 + (2 * x2)) 2 h with | none => none | some r3 => (if 0 ≤ x2 ∧ x2 < nI 34 then (if (lg_cmp r3.1 (Int32.toInt64 (hi r3.2 1254 (Int32.toNatClampNeg x2)))) = 0 then (K2 x1 (x2 + 1) r3.2) else (some (0, r3.2))) else none))))
set_option maxRecDepth 20000 in
theorem ks_u_isPreparedList_2 {l : Launch} {G : XG} {d : Nat} {K2 : Int32 → Int32 → XH → Option (Int32 × XH)} {x1 : Int32} {x2 : Int32} {h : XH} {r : Int32 × XH} (hK2 : ∀ (x1 : Int32) (x2 : Int32) (h : XH), LY h → K2 x1 x2 h = some r → XR l G xEX0_isPreparedList (d + 1) (2, [some (.ref 1244), some (.int x1), some (.int x2)], [], h) (fun C => ∃ v, xRet xEX0_isPreparedList C v ∧ (C.2.2.2 = r.2 ∧ v = some (.int r.1)) ∧ LY r.2)) (L0 : LY h) (hf : s_u_isPreparedList_2 K2 x1 x2 h = some r) : XR l G xEX0_isPreparedList (d + 1) (2, [some (.ref 1244), some (.int x1), some (.int x2)], [], h) (fun C => ∃ v, xRet xEX0_isPreparedList C v ∧ (C.2.2.2 = r.2 ∧ v = some (.int r.1)) ∧ LY r.2) := by
  unfold s_u_isPreparedList_2 at hf
  refine XS.go (s_iloadn rfl rfl rfl) ?_
  refine XS.go (s_aloadn rfl rfl rfl) ?_
  refine XS.go (s_getie rfl xf0_63 (LY.lt L0 (by decide)) (LY.k1244 L0) (by decide) rfl rfl) ?_
  refine r_icmp_ge (tgt := 51) rfl rfl (fun qc1 => ?_) (fun qc1 => ?_)
  · rw [if_pos qc1] at hf
    refine XS.go (s_iconst (v := 1) rfl rfl) ?_
    cases hf
    exact XR.retz rfl rfl (by decide) (fun hret => ⟨_, hret, ⟨rfl, rfl⟩, L0⟩)
  · rw [if_neg qc1] at hf
    refine XS.go (s_iloadn rfl rfl rfl) ?_
    refine XS.go (s_aloadn rfl rfl rfl) ?_
    refine XS.go (s_getr rfl xf0_60 (LY.lt L0 (by decide)) (LY.k1244 L0) (by decide) rfl (LY.r1244_14 L0)) ?_
    refine XS.go (s_alene rfl (LY.lt L0 (by decide)) (LY.k1254 L0) (LY.n1254 L0) (by decide)) ?_
    refine r_icmp_ge (tgt := 51) rfl rfl (fun qc2 => ?_) (fun qc2 => ?_)
    · rw [if_pos qc2] at hf
      refine XS.go (s_iconst (v := 1) rfl rfl) ?_
      cases hf
      exact XR.retz rfl rfl (by decide) (fun hret => ⟨_, hret, ⟨rfl, rfl⟩, L0⟩)
    · rw [if_neg qc2] at hf
      refine XS.go (s_aloadn rfl rfl rfl) ?_
      refine XS.go (s_getr rfl xf0_12 (LY.lt L0 (by decide)) (LY.k1244 L0) (by decide) rfl (LY.r1244_0 L0)) ?_
      refine XS.go (s_iloadn rfl rfl rfl) ?_
      refine XS.go (s_iconst (v := 2) rfl rfl) ?_
      refine XS.go (s_iloadn rfl rfl rfl) ?_
      refine XS.go (s_imul rfl) ?_
      refine XS.go (s_iadd rfl) ?_
      refine XS.go (s_iconst (v := 2) rfl rfl) ?_
      rcases e4 : f_b_number 1245 (x1 + (2 * x2)) 2 h with _ | r3
      · rw [e4] at hf; cases hf
      rw [e4] at hf; dsimp only at hf
      refine r_callv rfl xvX1_number xm0_196 (kf_b_number (d := d) L0 e4) (LY.lt L0 (by decide)) (LY.k1245 L0) (by decide) rfl rfl (by omega) (by decide) (Nat.le_of_ble_eq_true rfl) ?_
      rintro _ _ ⟨⟨rfl, rfl⟩, L5⟩
      refine XS.go (s_aloadn rfl rfl rfl) ?_
      refine XS.go (s_getr rfl xf0_60 (LY.lt L5 (by decide)) (LY.k1244 L5) (by decide) rfl (LY.r1244_14 L5)) ?_
      refine XS.go (s_iloadn rfl rfl rfl) ?_
      by_cases qk6 : 0 ≤ x2 ∧ x2 < nI 34
      rotate_left
      · rw [if_neg qk6] at hf; cases hf
      rw [if_pos qk6] at hf
      refine XS.go (s_ialde rfl (LY.lt L5 (by decide)) (LY.k1254 L5) (inLit (LY.n1254 L5) qk6.1 qk6.2 (by decide)) rfl) ?_
      refine XS.go (s_i2l rfl) ?_
      refine XS.go (s_lcmp rfl) ?_
      refine r_if_eq (tgt := 45) rfl rfl (fun qc7 => ?_) (fun qc7 => ?_)
      · rw [if_pos qc7] at hf
        refine XS.go (s_inc rfl rfl (Nat.le_of_ble_eq_true rfl)) ?_
        refine XS.go (s_goto (tgt := 2) rfl rfl) ?_
        exact XR.forget (L2 := [some (.ref 1244), some (.int x1), some (.int (x2 + 1))]) ⟨rfl, ⟨rfl, ⟨rfl, trivial⟩⟩⟩ (hK2 x1 (x2 + 1) _ L5 hf)
      · rw [if_neg qc7] at hf
        refine XS.go (s_iconst (v := 0) rfl rfl) ?_
        cases hf
        exact XR.retz rfl rfl (by decide) (fun hret => ⟨_, hret, ⟨rfl, rfl⟩, L5⟩)
def b_u_isPreparedList_2 : Nat → Int32 → Int32 → XH → Option (Int32 × XH)
  | 0, _, _, _ => none
  | n + 1, x1, x2, h => s_u_isPreparedList_2 (b_u_isPreparedList_2 n) x1 x2 h
theorem kb_u_isPreparedList_2 {l : Launch} {G : XG} {d : Nat} {n : Nat} {x1 : Int32} {x2 : Int32} {h : XH} {r : Int32 × XH} (L0 : LY h) (hf : b_u_isPreparedList_2 n x1 x2 h = some r) : XR l G xEX0_isPreparedList (d + 1) (2, [some (.ref 1244), some (.int x1), some (.int x2)], [], h) (fun C => ∃ v, xRet xEX0_isPreparedList C v ∧ (C.2.2.2 = r.2 ∧ v = some (.int r.1)) ∧ LY r.2) := by
  induction n generalizing x1 x2 h with
  | zero => cases hf
  | succ n ih => exact ks_u_isPreparedList_2 (fun x1 x2 h L0 hf => ih (h := h) (x1 := x1) (x2 := x2) L0 hf) L0 hf
def f_u_isPreparedList (a0 : Int32) (h : XH) : Option (Int32 × XH) := (b_u_isPreparedList_2 100000 a0 0 h)
set_option maxRecDepth 20000 in
theorem kf_u_isPreparedList {l : Launch} {G : XG} {d : Nat} {a0 : Int32} {h : XH} {r : Int32 × XH} (L0 : LY h) (hf : f_u_isPreparedList a0 h = some r) : XC l G xEX0_isPreparedList (d + 1) [.ref 1244, .int a0] h (fun v h2 => (h2 = r.2 ∧ v = some (.int r.1)) ∧ LY r.2) := by
  refine XC.virt xvX0_isPreparedList (Nat.le_of_ble_eq_true rfl) ?_
  unfold f_u_isPreparedList at hf
  refine XS.go (s_iconst (v := 0) rfl rfl) ?_
  refine XS.go (s_istoren rfl rfl (Nat.le_of_ble_eq_true rfl)) ?_
  exact XR.forget (L2 := [some (.ref 1244), some (.int a0), some (.int 0)]) ⟨rfl, ⟨rfl, ⟨rfl, trivial⟩⟩⟩ (kb_u_isPreparedList_2 L0 hf)
def s_u_startOfEqualList_2 (K2 : Int32 → XH → Option (Int32 × XH)) (x1 : Int32) (h : XH) : Option (Int32 × XH) := (if (hi h 1244 9) ≤ x1 then (some ((-1), h)) else (if (nI 300) ≤ x1 then (some ((-1), h)) else (if 0 ≤ x1 ∧ x1 < nI 300 then (match f_u_isPreparedList (4000 - (hi h 1251 (Int32.toNatClampNeg x1))) h with | none => none | some r4 => (if r4.1 = 0 then (K2 (x1 + 1) r4.2) else (if 0 ≤ x1 ∧ x1 < nI 300 then (some ((hi r4.2 1251 (Int32.toNatClampNeg x1)), r4.2)) else none))) else none)))
set_option maxRecDepth 20000 in
theorem ks_u_startOfEqualList_2 {l : Launch} {G : XG} {d : Nat} {K2 : Int32 → XH → Option (Int32 × XH)} {x1 : Int32} {h : XH} {r : Int32 × XH} (hK2 : ∀ (x1 : Int32) (h : XH), LY h → K2 x1 h = some r → XR l G xEX0_startOfEqualList (d + 2) (2, [some (.ref 1244), some (.int x1)], [], h) (fun C => ∃ v, xRet xEX0_startOfEqualList C v ∧ (C.2.2.2 = r.2 ∧ v = some (.int r.1)) ∧ LY r.2)) (L0 : LY h) (hf : s_u_startOfEqualList_2 K2 x1 h = some r) : XR l G xEX0_startOfEqualList (d + 2) (2, [some (.ref 1244), some (.int x1)], [], h) (fun C => ∃ v, xRet xEX0_startOfEqualList C v ∧ (C.2.2.2 = r.2 ∧ v = some (.int r.1)) ∧ LY r.2) := by
  unfold s_u_startOfEqualList_2 at hf
  refine XS.go (s_iloadn rfl rfl rfl) ?_
  refine XS.go (s_aloadn rfl rfl rfl) ?_
  refine XS.go (s_getie rfl xf0_44 (LY.lt L0 (by decide)) (LY.k1244 L0) (by decide) rfl rfl) ?_
  refine r_icmp_ge (tgt := 49) rfl rfl (fun qc1 => ?_) (fun qc1 => ?_)
  · rw [if_pos qc1] at hf
    refine XS.go (s_iconst (v := (-1)) rfl rfl) ?_
    cases hf
    exact XR.reti rfl rfl (fun hret => ⟨_, hret, ⟨rfl, rfl⟩, L0⟩)
  · rw [if_neg qc1] at hf
    refine XS.go (s_iloadn rfl rfl rfl) ?_
    refine XS.go (s_aloadn rfl rfl rfl) ?_
    refine XS.go (s_getr rfl xf0_41 (LY.lt L0 (by decide)) (LY.k1244 L0) (by decide) rfl (LY.r1244_8 L0)) ?_
    refine XS.go (s_alene rfl (LY.lt L0 (by decide)) (LY.k1251 L0) (LY.n1251 L0) (by decide)) ?_
    refine r_icmp_ge (tgt := 49) rfl rfl (fun qc2 => ?_) (fun qc2 => ?_)
    · rw [if_pos qc2] at hf
      refine XS.go (s_iconst (v := (-1)) rfl rfl) ?_
      cases hf
      exact XR.reti rfl rfl (fun hret => ⟨_, hret, ⟨rfl, rfl⟩, L0⟩)
    · rw [if_neg qc2] at hf
      refine XS.go (s_aloadn rfl rfl rfl) ?_
      refine XS.go (s_sipush (v := 4000) rfl rfl) ?_
      refine XS.go (s_aloadn rfl rfl rfl) ?_
      refine XS.go (s_getr rfl xf0_41 (LY.lt L0 (by decide)) (LY.k1244 L0) (by decide) rfl (LY.r1244_8 L0)) ?_
      refine XS.go (s_iloadn rfl rfl rfl) ?_
      by_cases qk3 : 0 ≤ x1 ∧ x1 < nI 300
      rotate_left
      · rw [if_neg qk3] at hf; cases hf
      rw [if_pos qk3] at hf
      refine XS.go (s_ialde rfl (LY.lt L0 (by decide)) (LY.k1251 L0) (inLit (LY.n1251 L0) qk3.1 qk3.2 (by decide)) rfl) ?_
      refine XS.go (s_isub rfl) ?_
      rcases e5 : f_u_isPreparedList (4000 - (hi h 1251 (Int32.toNatClampNeg x1))) h with _ | r4
      · rw [e5] at hf; cases hf
      rw [e5] at hf; dsimp only at hf
      refine r_callv rfl xvX0_isPreparedList xm0_193 (kf_u_isPreparedList (d := d) L0 e5) (LY.lt L0 (by decide)) (LY.k1244 L0) (by decide) rfl rfl (by omega) (by decide) (Nat.le_of_ble_eq_true rfl) ?_
      rintro _ _ ⟨⟨rfl, rfl⟩, L6⟩
      refine r_if_eq (tgt := 43) rfl rfl (fun qc7 => ?_) (fun qc7 => ?_)
      · rw [if_pos qc7] at hf
        refine XS.go (s_inc rfl rfl (Nat.le_of_ble_eq_true rfl)) ?_
        refine XS.go (s_goto (tgt := 2) rfl rfl) ?_
        exact XR.forget (L2 := [some (.ref 1244), some (.int (x1 + 1))]) ⟨rfl, ⟨rfl, trivial⟩⟩ (hK2 (x1 + 1) _ L6 hf)
      · rw [if_neg qc7] at hf
        refine XS.go (s_aloadn rfl rfl rfl) ?_
        refine XS.go (s_getr rfl xf0_41 (LY.lt L6 (by decide)) (LY.k1244 L6) (by decide) rfl (LY.r1244_8 L6)) ?_
        refine XS.go (s_iloadn rfl rfl rfl) ?_
        by_cases qk8 : 0 ≤ x1 ∧ x1 < nI 300
        rotate_left
        · rw [if_neg qk8] at hf; cases hf
        rw [if_pos qk8] at hf
        refine XS.go (s_ialde rfl (LY.lt L6 (by decide)) (LY.k1251 L6) (inLit (LY.n1251 L6) qk8.1 qk8.2 (by decide)) rfl) ?_
        cases hf
        exact XR.reti rfl rfl (fun hret => ⟨_, hret, ⟨rfl, rfl⟩, L6⟩)
def b_u_startOfEqualList_2 : Nat → Int32 → XH → Option (Int32 × XH)
  | 0, _, _ => none
  | n + 1, x1, h => s_u_startOfEqualList_2 (b_u_startOfEqualList_2 n) x1 h
theorem kb_u_startOfEqualList_2 {l : Launch} {G : XG} {d : Nat} {n : Nat} {x1 : Int32} {h : XH} {r : Int32 × XH} (L0 : LY h) (hf : b_u_startOfEqualList_2 n x1 h = some r) : XR l G xEX0_startOfEqualList (d + 2) (2, [some (.ref 1244), some (.int x1)], [], h) (fun C => ∃ v, xRet xEX0_startOfEqualList C v ∧ (C.2.2.2 = r.2 ∧ v = some (.int r.1)) ∧ LY r.2) := by
  induction n generalizing x1 h with
  | zero => cases hf
  | succ n ih => exact ks_u_startOfEqualList_2 (fun x1 h L0 hf => ih (h := h) (x1 := x1) L0 hf) L0 hf
def f_u_startOfEqualList (h : XH) : Option (Int32 × XH) := (b_u_startOfEqualList_2 100000 0 h)
set_option maxRecDepth 20000 in
theorem kf_u_startOfEqualList {l : Launch} {G : XG} {d : Nat} {h : XH} {r : Int32 × XH} (L0 : LY h) (hf : f_u_startOfEqualList h = some r) : XC l G xEX0_startOfEqualList (d + 2) [.ref 1244] h (fun v h2 => (h2 = r.2 ∧ v = some (.int r.1)) ∧ LY r.2) := by
  refine XC.virt xvX0_startOfEqualList (Nat.le_of_ble_eq_true rfl) ?_
  unfold f_u_startOfEqualList at hf
  refine XS.go (s_iconst (v := 0) rfl rfl) ?_
  refine XS.go (s_istoren rfl rfl (Nat.le_of_ble_eq_true rfl)) ?_
  exact XR.forget (L2 := [some (.ref 1244), some (.int 0)]) ⟨rfl, ⟨rfl, trivial⟩⟩ (kb_u_startOfEqualList_2 L0 hf)
def b_u_close_79 (x1 : Int32) (x2 : Int32) (x4 : Int32) (x5 : Int32) (h : XH) : Option (Int32 × XH) := (match f_b_putNumber 1245 x4 4 (Int32.toInt64 (x2 - x1)) h with | none => none | some r1 => (some (x5, (hsi r1.2 1244 10 (-1)))))
set_option maxRecDepth 20000 in
theorem kb_u_close_79 {l : Launch} {G : XG} {d : Nat} {x1 : Int32} {x2 : Int32} {x4 : Int32} {x5 : Int32} {h : XH} {r : Int32 × XH} (L0 : LY h) (hf : b_u_close_79 x1 x2 x4 x5 h = some r) : XR l G xEX0_close (d + 3) (79, [some (.ref 1244), some (.int x1), some (.int x2), none, some (.int x4), some (.int x5)], [], h) (fun C => ∃ v, xRet xEX0_close C v ∧ (C.2.2.2 = r.2 ∧ v = some (.int r.1)) ∧ LY r.2) := by
  unfold b_u_close_79 at hf
  refine XS.go (s_aloadn rfl rfl rfl) ?_
  refine XS.go (s_getr rfl xf0_12 (LY.lt L0 (by decide)) (LY.k1244 L0) (by decide) rfl (LY.r1244_0 L0)) ?_
  refine XS.go (s_iload rfl rfl) ?_
  refine XS.go (s_iconst (v := 4) rfl rfl) ?_
  refine XS.go (s_iloadn rfl rfl rfl) ?_
  refine XS.go (s_iloadn rfl rfl rfl) ?_
  refine XS.go (s_isub rfl) ?_
  refine XS.go (s_i2l rfl) ?_
  rcases e2 : f_b_putNumber 1245 x4 4 (Int32.toInt64 (x2 - x1)) h with _ | r1
  · rw [e2] at hf; cases hf
  rw [e2] at hf; dsimp only at hf
  refine r_callv rfl xvX1_putNumber xm0_100 (kf_b_putNumber (d := d) L0 e2) (LY.lt L0 (by decide)) (LY.k1245 L0) (by decide) rfl rfl (by omega) (by decide) (Nat.le_of_ble_eq_true rfl) ?_
  rintro _ _ ⟨⟨rfl, rfl⟩, L3⟩
  refine XS.go (s_aloadn rfl rfl rfl) ?_
  refine XS.go (s_iconst (v := (-1)) rfl rfl) ?_
  refine XS.go (s_puti rfl xf0_47 (LY.lt L3 (by decide)) (LY.k1244 L3) (by decide) rfl (Or.inl rfl)) ?_
  refine XS.go (s_iload rfl rfl) ?_
  cases hf
  exact XR.reti rfl rfl (fun hret => ⟨_, hret, ⟨rfl, rfl⟩, (by simp only [LY_si, LY_sj]; exact L3)⟩)
def b_u_close_38 (x1 : Int32) (x2 : Int32) (y0 : Int32) (h : XH) : Option (Int32 × XH) := (match f_u_hasRoomForThing y0 h with | none => none | some r4 => (if ¬ r4.1 = 0 then (match f_u_grow 4 4 r4.2 with | none => none | some r8 => (match f_u_addThing 3 (hi r8.2 1244 10) (-1) r8.2 with | none => none | some r11 => (if ¬ x2 = (-1) then (b_u_close_79 x1 x2 r8.1 r11.1 r11.2) else (match f_u_putList r11.2 with | none => none | some r15 => (b_u_close_79 x1 r15.1 r8.1 r11.1 r15.2))))) else (some ((-1), r4.2))))
set_option maxRecDepth 20000 in
theorem kb_u_close_38 {l : Launch} {G : XG} {d : Nat} {x1 : Int32} {x2 : Int32} {y0 : Int32} {h : XH} {r : Int32 × XH} (L0 : LY h) (hf : b_u_close_38 x1 x2 y0 h = some r) : XR l G xEX0_close (d + 3) (38, [some (.ref 1244), some (.int x1), some (.int x2), none, none, none], [(.int y0)], h) (fun C => ∃ v, xRet xEX0_close C v ∧ (C.2.2.2 = r.2 ∧ v = some (.int r.1)) ∧ LY r.2) := by
  unfold b_u_close_38 at hf
  refine XS.go (s_istoren rfl rfl (Nat.le_of_ble_eq_true rfl)) ?_
  refine XS.go (s_aloadn rfl rfl rfl) ?_
  refine XS.go (s_iloadn rfl rfl rfl) ?_
  rcases e5 : f_u_hasRoomForThing y0 h with _ | r4
  · rw [e5] at hf; cases hf
  rw [e5] at hf; dsimp only at hf
  refine r_callv rfl xvX0_hasRoomForThing xm0_104 (kf_u_hasRoomForThing (d := d) L0 e5) (LY.lt L0 (by decide)) (LY.k1244 L0) (by decide) rfl rfl (by omega) (by decide) (Nat.le_of_ble_eq_true rfl) ?_
  rintro _ _ ⟨⟨rfl, rfl⟩, L6⟩
  refine r_if_ne (tgt := 49) rfl rfl (fun qc7 => ?_) (fun qc7 => ?_)
  · rw [if_pos qc7] at hf
    refine XS.go (s_aloadn rfl rfl rfl) ?_
    refine XS.go (s_iconst (v := 4) rfl rfl) ?_
    refine XS.go (s_iconst (v := 4) rfl rfl) ?_
    rcases e9 : f_u_grow 4 4 r4.2 with _ | r8
    · rw [e9] at hf; cases hf
    rw [e9] at hf; dsimp only at hf
    refine r_callv rfl xvX0_grow xm0_107 (kf_u_grow (d := d) L6 e9) (LY.lt L6 (by decide)) (LY.k1244 L6) (by decide) rfl rfl (by omega) (by decide) (Nat.le_of_ble_eq_true rfl) ?_
    rintro _ _ ⟨⟨rfl, rfl⟩, L10⟩
    refine XS.go (s_istore rfl (Nat.le_of_ble_eq_true rfl)) ?_
    refine XS.go (s_aloadn rfl rfl rfl) ?_
    refine XS.go (s_iconst (v := 3) rfl rfl) ?_
    refine XS.go (s_aloadn rfl rfl rfl) ?_
    refine XS.go (s_getie rfl xf0_47 (LY.lt L10 (by decide)) (LY.k1244 L10) (by decide) rfl rfl) ?_
    refine XS.go (s_iconst (v := (-1)) rfl rfl) ?_
    rcases e12 : f_u_addThing 3 (hi r8.2 1244 10) (-1) r8.2 with _ | r11
    · rw [e12] at hf; cases hf
    rw [e12] at hf; dsimp only at hf
    refine r_callv rfl xvX0_addThing xm0_114 (kf_u_addThing (d := d) L10 e12) (LY.lt L10 (by decide)) (LY.k1244 L10) (by decide) rfl rfl (by omega) (by decide) (Nat.le_of_ble_eq_true rfl) ?_
    rintro _ _ ⟨⟨rfl, rfl⟩, L13⟩
    refine XS.go (s_istore rfl (Nat.le_of_ble_eq_true rfl)) ?_
    refine XS.go (s_iloadn rfl rfl rfl) ?_
    refine XS.go (s_iconst (v := (-1)) rfl rfl) ?_
    refine r_icmp_ne (tgt := 79) rfl rfl (fun qc14 => ?_) (fun qc14 => ?_)
    · rw [if_pos qc14] at hf
      exact XR.forget (L2 := [some (.ref 1244), some (.int x1), some (.int x2), none, some (.int r8.1), some (.int r11.1)]) ⟨rfl, ⟨rfl, ⟨rfl, ⟨rfl, ⟨rfl, trivial⟩⟩⟩⟩⟩ (kb_u_close_79 L13 hf)
    · rw [if_neg qc14] at hf
      refine XS.go (s_aloadn rfl rfl rfl) ?_
      rcases e16 : f_u_putList r11.2 with _ | r15
      · rw [e16] at hf; cases hf
      rw [e16] at hf; dsimp only at hf
      refine r_callv rfl xvX0_putList xm0_190 (kf_u_putList (d := d) L13 e16) (LY.lt L13 (by decide)) (LY.k1244 L13) (by decide) rfl rfl (by omega) (by decide) (Nat.le_of_ble_eq_true rfl) ?_
      rintro _ _ ⟨⟨rfl, rfl⟩, L17⟩
      refine XS.go (s_istoren rfl rfl (Nat.le_of_ble_eq_true rfl)) ?_
      exact XR.forget (L2 := [some (.ref 1244), some (.int x1), some (.int r15.1), none, some (.int r8.1), some (.int r11.1)]) ⟨rfl, ⟨rfl, ⟨rfl, ⟨rfl, ⟨rfl, trivial⟩⟩⟩⟩⟩ (kb_u_close_79 L17 hf)
  · rw [if_neg qc7] at hf
    refine XS.go (s_iconst (v := (-1)) rfl rfl) ?_
    cases hf
    exact XR.reti rfl rfl (fun hret => ⟨_, hret, ⟨rfl, rfl⟩, L6⟩)
def f_u_close (h : XH) : Option (Int32 × XH) := (match f_t_roundUp ((hi h 1244 1) + 4) 4 h with | none => none | some r18 => (match f_u_prepareList r18.1 r18.2 with | none => none | some r21 => (match f_u_startOfEqualList r21.2 with | none => none | some r24 => (if ¬ r24.1 = (-1) then (b_u_close_38 r18.1 r24.1 r18.1 r24.2) else (b_u_close_38 r18.1 r24.1 (r18.1 + (2 * (hi r24.2 1244 15))) r24.2)))))
set_option maxRecDepth 20000 in
theorem kf_u_close {l : Launch} {G : XG} {d : Nat} {h : XH} {r : Int32 × XH} (L0 : LY h) (hf : f_u_close h = some r) : XC l G xEX0_close (d + 3) [.ref 1244] h (fun v h2 => (h2 = r.2 ∧ v = some (.int r.1)) ∧ LY r.2) := by
  refine XC.virt xvX0_close (Nat.le_of_ble_eq_true rfl) ?_
  unfold f_u_close at hf
  refine XS.go (s_aloadn rfl rfl rfl) ?_
  refine XS.go (s_getie rfl xf0_18 (LY.lt L0 (by decide)) (LY.k1244 L0) (by decide) rfl rfl) ?_
  refine XS.go (s_iconst (v := 4) rfl rfl) ?_
  refine XS.go (s_iadd rfl) ?_
  refine XS.go (s_iconst (v := 4) rfl rfl) ?_
  rcases e19 : f_t_roundUp ((hi h 1244 1) + 4) 4 h with _ | r18
  · rw [e19] at hf; cases hf
  rw [e19] at hf; dsimp only at hf
  refine r_callsn rfl xsX11_roundUp (List.mem_of_getElem? (i := 15) rfl) (kf_t_roundUp (d := d) L0 e19) rfl rfl (by omega) (by decide) (Nat.le_of_ble_eq_true rfl) ?_
  rintro _ _ ⟨⟨rfl, rfl⟩, L20⟩
  refine XS.go (s_istoren rfl rfl (Nat.le_of_ble_eq_true rfl)) ?_
  refine XS.go (s_aloadn rfl rfl rfl) ?_
  refine XS.go (s_iloadn rfl rfl rfl) ?_
  rcases e22 : f_u_prepareList r18.1 r18.2 with _ | r21
  · rw [e22] at hf; cases hf
  rw [e22] at hf; dsimp only at hf
  refine r_callv rfl xvX0_prepareList xm0_183 (kf_u_prepareList (d := d) L20 e22) (LY.lt L20 (by decide)) (LY.k1244 L20) (by decide) rfl rfl (by omega) (by decide) (Nat.le_of_ble_eq_true rfl) ?_
  rintro _ _ ⟨⟨rfl, rfl⟩, L23⟩
  refine XS.go (s_aloadn rfl rfl rfl) ?_
  rcases e25 : f_u_startOfEqualList r21.2 with _ | r24
  · rw [e25] at hf; cases hf
  rw [e25] at hf; dsimp only at hf
  refine r_callv rfl xvX0_startOfEqualList xm0_186 (kf_u_startOfEqualList (d := d) L23 e25) (LY.lt L23 (by decide)) (LY.k1244 L23) (by decide) rfl rfl (by omega) (by decide) (Nat.le_of_ble_eq_true rfl) ?_
  rintro _ _ ⟨⟨rfl, rfl⟩, L26⟩
  refine XS.go (s_istoren rfl rfl (Nat.le_of_ble_eq_true rfl)) ?_
  refine XS.go (s_iloadn rfl rfl rfl) ?_
  refine XS.go (s_iconst (v := (-1)) rfl rfl) ?_
  refine r_icmp_ne (tgt := 37) rfl rfl (fun qc27 => ?_) (fun qc27 => ?_)
  · rw [if_pos qc27] at hf
    refine XS.go (s_iloadn rfl rfl rfl) ?_
    exact XR.forget (L2 := [some (.ref 1244), some (.int r18.1), some (.int r24.1), none, none, none]) ⟨rfl, ⟨rfl, ⟨rfl, trivial⟩⟩⟩ (kb_u_close_38 L26 hf)
  · rw [if_neg qc27] at hf
    refine XS.go (s_iloadn rfl rfl rfl) ?_
    refine XS.go (s_iconst (v := 2) rfl rfl) ?_
    refine XS.go (s_aloadn rfl rfl rfl) ?_
    refine XS.go (s_getie rfl xf0_63 (LY.lt L26 (by decide)) (LY.k1244 L26) (by decide) rfl rfl) ?_
    refine XS.go (s_imul rfl) ?_
    refine XS.go (s_iadd rfl) ?_
    refine XS.go (s_goto (tgt := 38) rfl rfl) ?_
    exact XR.forget (L2 := [some (.ref 1244), some (.int r18.1), some (.int r24.1), none, none, none]) ⟨rfl, ⟨rfl, ⟨rfl, trivial⟩⟩⟩ (kb_u_close_38 L26 hf)
def f_u_moveTo (a0 : Nat) (a1 : Int32) (h : XH) : Option (Int32 × XH) := (match f_t_roundUp ((hi h 1244 1) + 4) (hi h 1244 2) h with | none => none | some r1 => (if r1.1 ≤ 4000 then (match f_u_grow 4 (hi r1.2 1244 2) r1.2 with | none => none | some r5 => (match f_u_putReference r5.1 (Int32.toInt64 a1) r5.2 with | none => none | some r8 => (if a0 < hz r8.2 ∧ hk r8.2 a0 = 1 then (match f_b_copy a0 1245 (4000 - (hi r8.2 1244 1)) 0 (hi r8.2 1244 1) r8.2 with | none => none | some r12 => (if a0 < hz r12.2 ∧ hk r12.2 a0 = 1 then (match f_u_empty (hsi r12.2 a0 1 (hi r12.2 1244 1)) with | none => none | some r16 => (some (1, r16.2))) else none)) else none))) else (some (0, r1.2))))
set_option maxRecDepth 20000 in
theorem kf_u_moveTo {l : Launch} {G : XG} {d : Nat} {a0 : Nat} {a1 : Int32} {h : XH} {r : Int32 × XH} (L0 : LY h) (hf : f_u_moveTo a0 a1 h = some r) : XC l G xEX0_moveTo (d + 3) [.ref 1244, .ref a0, .int a1] h (fun v h2 => (h2 = r.2 ∧ v = some (.int r.1)) ∧ LY r.2) := by
  refine XC.virt xvX0_moveTo (Nat.le_of_ble_eq_true rfl) ?_
  unfold f_u_moveTo at hf
  refine XS.go (s_aloadn rfl rfl rfl) ?_
  refine XS.go (s_getie rfl xf0_18 (LY.lt L0 (by decide)) (LY.k1244 L0) (by decide) rfl rfl) ?_
  refine XS.go (s_iconst (v := 4) rfl rfl) ?_
  refine XS.go (s_iadd rfl) ?_
  refine XS.go (s_aloadn rfl rfl rfl) ?_
  refine XS.go (s_getie rfl xf0_22 (LY.lt L0 (by decide)) (LY.k1244 L0) (by decide) rfl rfl) ?_
  rcases e2 : f_t_roundUp ((hi h 1244 1) + 4) (hi h 1244 2) h with _ | r1
  · rw [e2] at hf; cases hf
  rw [e2] at hf; dsimp only at hf
  refine r_callsn rfl xsX11_roundUp (List.mem_of_getElem? (i := 15) rfl) (kf_t_roundUp (d := d) L0 e2) rfl rfl (by omega) (by decide) (Nat.le_of_ble_eq_true rfl) ?_
  rintro _ _ ⟨⟨rfl, rfl⟩, L3⟩
  refine XS.go (s_sipush (v := 4000) rfl rfl) ?_
  refine r_icmp_le (tgt := 21) rfl rfl (fun qc4 => ?_) (fun qc4 => ?_)
  · rw [if_pos qc4] at hf
    refine XS.go (s_aloadn rfl rfl rfl) ?_
    refine XS.go (s_aloadn rfl rfl rfl) ?_
    refine XS.go (s_iconst (v := 4) rfl rfl) ?_
    refine XS.go (s_aloadn rfl rfl rfl) ?_
    refine XS.go (s_getie rfl xf0_22 (LY.lt L3 (by decide)) (LY.k1244 L3) (by decide) rfl rfl) ?_
    rcases e6 : f_u_grow 4 (hi r1.2 1244 2) r1.2 with _ | r5
    · rw [e6] at hf; cases hf
    rw [e6] at hf; dsimp only at hf
    refine r_callv rfl xvX0_grow xm0_107 (kf_u_grow (d := d) L3 e6) (LY.lt L3 (by decide)) (LY.k1244 L3) (by decide) rfl rfl (by omega) (by decide) (Nat.le_of_ble_eq_true rfl) ?_
    rintro _ _ ⟨⟨rfl, rfl⟩, L7⟩
    refine XS.go (s_iloadn rfl rfl rfl) ?_
    refine XS.go (s_i2l rfl) ?_
    rcases e9 : f_u_putReference r5.1 (Int32.toInt64 a1) r5.2 with _ | r8
    · rw [e9] at hf; cases hf
    rw [e9] at hf; dsimp only at hf
    refine r_callv rfl xvX0_putReference xm0_153 (kf_u_putReference (d := d) L7 e9) (LY.lt L7 (by decide)) (LY.k1244 L7) (by decide) rfl rfl (by omega) (by decide) (Nat.le_of_ble_eq_true rfl) ?_
    rintro _ _ ⟨⟨rfl, rfl⟩, L10⟩
    refine XS.go (s_aloadn rfl rfl rfl) ?_
    refine XS.go (s_aloadn rfl rfl rfl) ?_
    refine XS.go (s_getr rfl xf0_12 (LY.lt L10 (by decide)) (LY.k1244 L10) (by decide) rfl (LY.r1244_0 L10)) ?_
    refine XS.go (s_sipush (v := 4000) rfl rfl) ?_
    refine XS.go (s_aloadn rfl rfl rfl) ?_
    refine XS.go (s_getie rfl xf0_18 (LY.lt L10 (by decide)) (LY.k1244 L10) (by decide) rfl rfl) ?_
    refine XS.go (s_isub rfl) ?_
    refine XS.go (s_iconst (v := 0) rfl rfl) ?_
    refine XS.go (s_aloadn rfl rfl rfl) ?_
    refine XS.go (s_getie rfl xf0_18 (LY.lt L10 (by decide)) (LY.k1244 L10) (by decide) rfl rfl) ?_
    by_cases qk11 : a0 < hz r8.2 ∧ hk r8.2 a0 = 1
    rotate_left
    · rw [if_neg qk11] at hf; cases hf
    rw [if_pos qk11] at hf
    rcases e13 : f_b_copy a0 1245 (4000 - (hi r8.2 1244 1)) 0 (hi r8.2 1244 1) r8.2 with _ | r12
    · rw [e13] at hf; cases hf
    rw [e13] at hf; dsimp only at hf
    refine r_callv rfl xvX1_copy xm0_110 (kf_b_copy (d := d) L10 e13) qk11.1 qk11.2 (by decide) rfl rfl (by omega) (by decide) (Nat.le_of_ble_eq_true rfl) ?_
    rintro _ _ ⟨⟨rfl, rfl⟩, L14⟩
    refine XS.go (s_aloadn rfl rfl rfl) ?_
    refine XS.go (s_aloadn rfl rfl rfl) ?_
    refine XS.go (s_getie rfl xf0_18 (LY.lt L14 (by decide)) (LY.k1244 L14) (by decide) rfl rfl) ?_
    by_cases qk15 : a0 < hz r12.2 ∧ hk r12.2 a0 = 1
    rotate_left
    · rw [if_neg qk15] at hf; cases hf
    rw [if_pos qk15] at hf
    refine XS.go (s_puti rfl xf0_199 qk15.1 qk15.2 (by decide) rfl (Or.inl rfl)) ?_
    refine XS.go (s_aloadn rfl rfl rfl) ?_
    rcases e17 : f_u_empty (hsi r12.2 a0 1 (hi r12.2 1244 1)) with _ | r16
    · rw [e17] at hf; cases hf
    rw [e17] at hf; dsimp only at hf
    refine r_callv rfl xvX0_empty xm0_200 (kf_u_empty (d := d) (by simp only [LY_si, LY_sj]; exact L14) e17) (LY.lt (by simp only [LY_si, LY_sj]; exact L14) (by decide)) (LY.k1244 (by simp only [LY_si, LY_sj]; exact L14)) (by decide) rfl rfl (by omega) (by decide) (Nat.le_of_ble_eq_true rfl) ?_
    rintro _ _ ⟨⟨rfl, rfl⟩, L18⟩
    refine XS.go (s_iconst (v := 1) rfl rfl) ?_
    cases hf
    exact XR.retz rfl rfl (by decide) (fun hret => ⟨_, hret, ⟨rfl, rfl⟩, L18⟩)
  · rw [if_neg qc4] at hf
    refine XS.go (s_iconst (v := 0) rfl rfl) ?_
    cases hf
    exact XR.retz rfl rfl (by decide) (fun hret => ⟨_, hret, ⟨rfl, rfl⟩, L3⟩)
def f_b_octetOrNone (t : Nat) (a0 : Int32) (h : XH) : Option (Int32 × XH) := (if a0 < 0 then (some ((-1), h)) else (if t < hz h ∧ hk h t = 1 then (if (hi h t 1) ≤ a0 then (some ((-1), h)) else (match f_b_octet t a0 h with | none => none | some r4 => (some (r4.1, r4.2)))) else none))
set_option maxRecDepth 20000 in
theorem kf_b_octetOrNone {l : Launch} {G : XG} {d : Nat} {t : Nat} {a0 : Int32} {h : XH} {r : Int32 × XH} (L0 : LY h) (hf : f_b_octetOrNone t a0 h = some r) : XC l G xEX1_octetOrNone (d + 1) [.ref t, .int a0] h (fun v h2 => (h2 = r.2 ∧ v = some (.int r.1)) ∧ LY r.2) := by
  refine XC.virt xvX1_octetOrNone (Nat.le_of_ble_eq_true rfl) ?_
  unfold f_b_octetOrNone at hf
  refine XS.go (s_iloadn rfl rfl rfl) ?_
  refine r_if_lt (tgt := 20) rfl rfl (fun qc1 => ?_) (fun qc1 => ?_)
  · rw [if_pos qc1] at hf
    refine XS.go (s_iconst (v := (-1)) rfl rfl) ?_
    cases hf
    exact XR.reti rfl rfl (fun hret => ⟨_, hret, ⟨rfl, rfl⟩, L0⟩)
  · rw [if_neg qc1] at hf
    refine XS.go (s_iloadn rfl rfl rfl) ?_
    refine XS.go (s_aloadn rfl rfl rfl) ?_
    by_cases qk2 : t < hz h ∧ hk h t = 1
    rotate_left
    · rw [if_neg qk2] at hf; cases hf
    rw [if_pos qk2] at hf
    refine XS.go (s_getie rfl xf1_15 qk2.1 qk2.2 (by decide) rfl rfl) ?_
    refine r_icmp_ge (tgt := 20) rfl rfl (fun qc3 => ?_) (fun qc3 => ?_)
    · rw [if_pos qc3] at hf
      refine XS.go (s_iconst (v := (-1)) rfl rfl) ?_
      cases hf
      exact XR.reti rfl rfl (fun hret => ⟨_, hret, ⟨rfl, rfl⟩, L0⟩)
    · rw [if_neg qc3] at hf
      refine XS.go (s_aloadn rfl rfl rfl) ?_
      refine XS.go (s_iloadn rfl rfl rfl) ?_
      rcases e5 : f_b_octet t a0 h with _ | r4
      · rw [e5] at hf; cases hf
      rw [e5] at hf; dsimp only at hf
      refine r_callv rfl xvX1_octet xm1_19 (kf_b_octet (d := d) L0 e5) qk2.1 qk2.2 (by decide) rfl rfl (by omega) (by decide) (Nat.le_of_ble_eq_true rfl) ?_
      rintro _ _ ⟨⟨rfl, rfl⟩, L6⟩
      refine XS.go (s_goto (tgt := 21) rfl rfl) ?_
      cases hf
      exact XR.reti rfl rfl (fun hret => ⟨_, hret, ⟨rfl, rfl⟩, L6⟩)
def f_t_isScalar (a0 : Int32) (h : XH) : Option (Int32 × XH) := (if a0 < 0 then (some (0, h)) else (if 11 ≤ a0 then (some (0, h)) else (some (1, h))))
set_option maxRecDepth 20000 in
theorem kf_t_isScalar {l : Launch} {G : XG} {d : Nat} {a0 : Int32} {h : XH} {r : Int32 × XH} (L0 : LY h) (hf : f_t_isScalar a0 h = some r) : XC l G xEX11_isScalar d [.int a0] h (fun v h2 => (h2 = r.2 ∧ v = some (.int r.1)) ∧ LY r.2) := by
  refine XC.stat xsX11_isScalar (Nat.le_of_ble_eq_true rfl) ?_
  unfold f_t_isScalar at hf
  refine XS.go (s_iloadn rfl rfl rfl) ?_
  refine r_if_lt (tgt := 14) rfl rfl (fun qc1 => ?_) (fun qc1 => ?_)
  · rw [if_pos qc1] at hf
    refine XS.go (s_iconst (v := 0) rfl rfl) ?_
    cases hf
    exact XR.retz rfl rfl (by decide) (fun hret => ⟨_, hret, ⟨rfl, rfl⟩, L0⟩)
  · rw [if_neg qc1] at hf
    refine XS.go (s_iloadn rfl rfl rfl) ?_
    refine XS.go (s_bipush (v := 11) rfl rfl) ?_
    refine r_icmp_ge (tgt := 14) rfl rfl (fun qc2 => ?_) (fun qc2 => ?_)
    · rw [if_pos qc2] at hf
      refine XS.go (s_iconst (v := 0) rfl rfl) ?_
      cases hf
      exact XR.retz rfl rfl (by decide) (fun hret => ⟨_, hret, ⟨rfl, rfl⟩, L0⟩)
    · rw [if_neg qc2] at hf
      refine XS.go (s_iconst (v := 1) rfl rfl) ?_
      refine XS.go (s_goto (tgt := 15) rfl rfl) ?_
      cases hf
      exact XR.retz rfl rfl (by decide) (fun hret => ⟨_, hret, ⟨rfl, rfl⟩, L0⟩)
def f_t_hasSign (a0 : Int32) (h : XH) : Option (Int32 × XH) := (match f_t_isScalar a0 h with | none => none | some r1 => (if r1.1 = 0 then (some (0, r1.2)) else (if 0 ≤ a0 ∧ a0 < nI 11 then (if 0 ≤ (lg_cmp (xLO (Int32.toNatClampNeg a0)) 0) then (some (0, r1.2)) else (some (1, r1.2))) else none)))
set_option maxRecDepth 20000 in
theorem kf_t_hasSign {l : Launch} {G : XG} {d : Nat} {a0 : Int32} {h : XH} {r : Int32 × XH} (L0 : LY h) (hf : f_t_hasSign a0 h = some r) : XC l G xEX11_hasSign (d + 1) [.int a0] h (fun v h2 => (h2 = r.2 ∧ v = some (.int r.1)) ∧ LY r.2) := by
  refine XC.stat xsX11_hasSign (Nat.le_of_ble_eq_true rfl) ?_
  unfold f_t_hasSign at hf
  refine XS.go (s_iloadn rfl rfl rfl) ?_
  rcases e2 : f_t_isScalar a0 h with _ | r1
  · rw [e2] at hf; cases hf
  rw [e2] at hf; dsimp only at hf
  refine r_calls rfl xsX11_isScalar xm11_249 (kf_t_isScalar (d := d) L0 e2) rfl rfl (by omega) (by decide) (Nat.le_of_ble_eq_true rfl) ?_
  rintro _ _ ⟨⟨rfl, rfl⟩, L3⟩
  refine r_if_eq (tgt := 21) rfl rfl (fun qc4 => ?_) (fun qc4 => ?_)
  · rw [if_pos qc4] at hf
    refine XS.go (s_iconst (v := 0) rfl rfl) ?_
    cases hf
    exact XR.retz rfl rfl (by decide) (fun hret => ⟨_, hret, ⟨rfl, rfl⟩, L3⟩)
  · rw [if_neg qc4] at hf
    refine XS.go (s_gets2 rfl (lg_3 164 rfl rfl)) ?_
    refine XS.go (s_iloadn rfl rfl rfl) ?_
    by_cases qk5 : 0 ≤ a0 ∧ a0 < nI 11
    rotate_left
    · rw [if_neg qk5] at hf; cases hf
    rw [if_pos qk5] at hf
    refine XS.go (s_ald2 rfl (inLit (rfl : (11 : Nat) = 11) qk5.1 qk5.2 (by decide))) ?_
    refine XS.go (s_lconst (v := 0) rfl rfl) ?_
    refine XS.go (s_lcmp rfl) ?_
    refine r_if_ge (tgt := 21) rfl rfl (fun qc6 => ?_) (fun qc6 => ?_)
    · rw [if_pos qc6] at hf
      refine XS.go (s_iconst (v := 0) rfl rfl) ?_
      cases hf
      exact XR.retz rfl rfl (by decide) (fun hret => ⟨_, hret, ⟨rfl, rfl⟩, L3⟩)
    · rw [if_neg qc6] at hf
      refine XS.go (s_iconst (v := 1) rfl rfl) ?_
      refine XS.go (s_goto (tgt := 22) rfl rfl) ?_
      cases hf
      exact XR.retz rfl rfl (by decide) (fun hret => ⟨_, hret, ⟨rfl, rfl⟩, L3⟩)
def f_b_scalar (t : Nat) (a0 : Int32) (a1 : Int32) (h : XH) : Option (Int64 × XH) := (match f_t_scalarBytes a1 h with | none => none | some r1 => (if t < hz r1.2 ∧ hk r1.2 t = 1 then (match f_b_number t a0 r1.1 r1.2 with | none => none | some r5 => (match f_t_hasSign a1 r5.2 with | none => none | some r8 => (if r8.1 = 0 then (some (r5.1, r8.2)) else (some (((r5.1 <<< ((Int32.toInt64 (64 - (8 * r1.1))) &&& 63)) >>> ((Int32.toInt64 (64 - (8 * r1.1))) &&& 63)), r8.2))))) else none))
set_option maxRecDepth 20000 in
theorem kf_b_scalar {l : Launch} {G : XG} {d : Nat} {t : Nat} {a0 : Int32} {a1 : Int32} {h : XH} {r : Int64 × XH} (L0 : LY h) (hf : f_b_scalar t a0 a1 h = some r) : XC l G xEX1_scalar (d + 2) [.ref t, .int a0, .int a1] h (fun v h2 => (h2 = r.2 ∧ v = some (.long r.1)) ∧ LY r.2) := by
  refine XC.virt xvX1_scalar (Nat.le_of_ble_eq_true rfl) ?_
  unfold f_b_scalar at hf
  refine XS.go (s_iloadn rfl rfl rfl) ?_
  rcases e2 : f_t_scalarBytes a1 h with _ | r1
  · rw [e2] at hf; cases hf
  rw [e2] at hf; dsimp only at hf
  refine r_callsn rfl xsX11_scalarBytes (List.mem_of_getElem? (i := 17) rfl) (kf_t_scalarBytes (d := d) L0 e2) rfl rfl (by omega) (by decide) (Nat.le_of_ble_eq_true rfl) ?_
  rintro _ _ ⟨⟨rfl, rfl⟩, L3⟩
  refine XS.go (s_istoren rfl rfl (Nat.le_of_ble_eq_true rfl)) ?_
  refine XS.go (s_bipush (v := 64) rfl rfl) ?_
  refine XS.go (s_bipush (v := 8) rfl rfl) ?_
  refine XS.go (s_iloadn rfl rfl rfl) ?_
  refine XS.go (s_imul rfl) ?_
  refine XS.go (s_isub rfl) ?_
  refine XS.go (s_istore rfl (Nat.le_of_ble_eq_true rfl)) ?_
  refine XS.go (s_aloadn rfl rfl rfl) ?_
  refine XS.go (s_iloadn rfl rfl rfl) ?_
  refine XS.go (s_iloadn rfl rfl rfl) ?_
  by_cases qk4 : t < hz r1.2 ∧ hk r1.2 t = 1
  rotate_left
  · rw [if_neg qk4] at hf; cases hf
  rw [if_pos qk4] at hf
  rcases e6 : f_b_number t a0 r1.1 r1.2 with _ | r5
  · rw [e6] at hf; cases hf
  rw [e6] at hf; dsimp only at hf
  refine r_callv rfl xvX1_number xm1_30 (kf_b_number (d := d) L3 e6) qk4.1 qk4.2 (by decide) rfl rfl (by omega) (by decide) (Nat.le_of_ble_eq_true rfl) ?_
  rintro _ _ ⟨⟨rfl, rfl⟩, L7⟩
  refine XS.go (s_lstore rfl (Nat.le_of_ble_eq_true rfl)) ?_
  refine XS.go (s_iloadn rfl rfl rfl) ?_
  rcases e9 : f_t_hasSign a1 r5.2 with _ | r8
  · rw [e9] at hf; cases hf
  rw [e9] at hf; dsimp only at hf
  refine r_callsn rfl xsX11_hasSign (List.mem_of_getElem? (i := 18) rfl) (kf_t_hasSign (d := d) L7 e9) rfl rfl (by omega) (by decide) (Nat.le_of_ble_eq_true rfl) ?_
  rintro _ _ ⟨⟨rfl, rfl⟩, L10⟩
  refine r_if_eq (tgt := 40) rfl rfl (fun qc11 => ?_) (fun qc11 => ?_)
  · rw [if_pos qc11] at hf
    refine XS.go (s_lload rfl rfl) ?_
    cases hf
    exact XR.retl rfl rfl (fun hret => ⟨_, hret, ⟨rfl, rfl⟩, L10⟩)
  · rw [if_neg qc11] at hf
    refine XS.go (s_lload rfl rfl) ?_
    refine XS.go (s_iload rfl rfl) ?_
    refine XS.go (s_lshl rfl) ?_
    refine XS.go (s_iload rfl rfl) ?_
    refine XS.go (s_lshr rfl) ?_
    refine XS.go (s_goto (tgt := 42) rfl rfl) ?_
    cases hf
    exact XR.retl rfl rfl (fun hret => ⟨_, hret, ⟨rfl, rfl⟩, L10⟩)
def s_b_hasZero_2 (K2 : Nat → Int32 → Int32 → XH → Option (Int32 × XH)) (x0 : Nat) (x1 : Int32) (x2 : Int32) (h : XH) : Option (Int32 × XH) := (if x1 ≤ x2 then (some (0, h)) else (if x0 < hz h ∧ hk h x0 = 1 then (match f_b_octet x0 x2 h with | none => none | some r3 => (if ¬ r3.1 = 0 then (K2 x0 x1 (x2 + 1) r3.2) else (some (1, r3.2)))) else none))
set_option maxRecDepth 20000 in
theorem ks_b_hasZero_2 {l : Launch} {G : XG} {d : Nat} {K2 : Nat → Int32 → Int32 → XH → Option (Int32 × XH)} {x0 : Nat} {x1 : Int32} {x2 : Int32} {h : XH} {r : Int32 × XH} (hK2 : ∀ (x0 : Nat) (x1 : Int32) (x2 : Int32) (h : XH), LY h → K2 x0 x1 x2 h = some r → XR l G xEX1_hasZero (d + 1) (2, [some (.ref x0), some (.int x1), some (.int x2)], [], h) (fun C => ∃ v, xRet xEX1_hasZero C v ∧ (C.2.2.2 = r.2 ∧ v = some (.int r.1)) ∧ LY r.2)) (L0 : LY h) (hf : s_b_hasZero_2 K2 x0 x1 x2 h = some r) : XR l G xEX1_hasZero (d + 1) (2, [some (.ref x0), some (.int x1), some (.int x2)], [], h) (fun C => ∃ v, xRet xEX1_hasZero C v ∧ (C.2.2.2 = r.2 ∧ v = some (.int r.1)) ∧ LY r.2) := by
  unfold s_b_hasZero_2 at hf
  refine XS.go (s_iloadn rfl rfl rfl) ?_
  refine XS.go (s_iloadn rfl rfl rfl) ?_
  refine r_icmp_ge (tgt := 23) rfl rfl (fun qc1 => ?_) (fun qc1 => ?_)
  · rw [if_pos qc1] at hf
    refine XS.go (s_iconst (v := 0) rfl rfl) ?_
    cases hf
    exact XR.retz rfl rfl (by decide) (fun hret => ⟨_, hret, ⟨rfl, rfl⟩, L0⟩)
  · rw [if_neg qc1] at hf
    refine XS.go (s_aloadn rfl rfl rfl) ?_
    refine XS.go (s_iloadn rfl rfl rfl) ?_
    by_cases qk2 : x0 < hz h ∧ hk h x0 = 1
    rotate_left
    · rw [if_neg qk2] at hf; cases hf
    rw [if_pos qk2] at hf
    rcases e4 : f_b_octet x0 x2 h with _ | r3
    · rw [e4] at hf; cases hf
    rw [e4] at hf; dsimp only at hf
    refine r_callv rfl xvX1_octet xm1_19 (kf_b_octet (d := d) L0 e4) qk2.1 qk2.2 (by decide) rfl rfl (by omega) (by decide) (Nat.le_of_ble_eq_true rfl) ?_
    rintro _ _ ⟨⟨rfl, rfl⟩, L5⟩
    refine r_if_ne (tgt := 17) rfl rfl (fun qc6 => ?_) (fun qc6 => ?_)
    · rw [if_pos qc6] at hf
      refine XS.go (s_inc rfl rfl (Nat.le_of_ble_eq_true rfl)) ?_
      refine XS.go (s_goto (tgt := 2) rfl rfl) ?_
      exact XR.forget (L2 := [some (.ref x0), some (.int x1), some (.int (x2 + 1))]) ⟨rfl, ⟨rfl, ⟨rfl, trivial⟩⟩⟩ (hK2 x0 x1 (x2 + 1) _ L5 hf)
    · rw [if_neg qc6] at hf
      refine XS.go (s_iconst (v := 1) rfl rfl) ?_
      cases hf
      exact XR.retz rfl rfl (by decide) (fun hret => ⟨_, hret, ⟨rfl, rfl⟩, L5⟩)
def b_b_hasZero_2 : Nat → Nat → Int32 → Int32 → XH → Option (Int32 × XH)
  | 0, _, _, _, _ => none
  | n + 1, x0, x1, x2, h => s_b_hasZero_2 (b_b_hasZero_2 n) x0 x1 x2 h
theorem kb_b_hasZero_2 {l : Launch} {G : XG} {d : Nat} {n : Nat} {x0 : Nat} {x1 : Int32} {x2 : Int32} {h : XH} {r : Int32 × XH} (L0 : LY h) (hf : b_b_hasZero_2 n x0 x1 x2 h = some r) : XR l G xEX1_hasZero (d + 1) (2, [some (.ref x0), some (.int x1), some (.int x2)], [], h) (fun C => ∃ v, xRet xEX1_hasZero C v ∧ (C.2.2.2 = r.2 ∧ v = some (.int r.1)) ∧ LY r.2) := by
  induction n generalizing x0 x1 x2 h with
  | zero => cases hf
  | succ n ih => exact ks_b_hasZero_2 (fun x0 x1 x2 h L0 hf => ih (h := h) (x0 := x0) (x1 := x1) (x2 := x2) L0 hf) L0 hf
def f_b_hasZero (t : Nat) (a0 : Int32) (h : XH) : Option (Int32 × XH) := (b_b_hasZero_2 100000 t a0 0 h)
set_option maxRecDepth 20000 in
theorem kf_b_hasZero {l : Launch} {G : XG} {d : Nat} {t : Nat} {a0 : Int32} {h : XH} {r : Int32 × XH} (L0 : LY h) (hf : f_b_hasZero t a0 h = some r) : XC l G xEX1_hasZero (d + 1) [.ref t, .int a0] h (fun v h2 => (h2 = r.2 ∧ v = some (.int r.1)) ∧ LY r.2) := by
  refine XC.virt xvX1_hasZero (Nat.le_of_ble_eq_true rfl) ?_
  unfold f_b_hasZero at hf
  refine XS.go (s_iconst (v := 0) rfl rfl) ?_
  refine XS.go (s_istoren rfl rfl (Nat.le_of_ble_eq_true rfl)) ?_
  exact XR.forget (L2 := [some (.ref t), some (.int a0), some (.int 0)]) ⟨rfl, ⟨rfl, ⟨rfl, trivial⟩⟩⟩ (kb_b_hasZero_2 L0 hf)
def s_b_packed_5 (K5 : Nat → Int32 → Int32 → Int64 → Int32 → XH → Option (Int64 × XH)) (x0 : Nat) (x1 : Int32) (x2 : Int32) (x3 : Int64) (x5 : Int32) (h : XH) : Option (Int64 × XH) := (if x2 ≤ x5 then (some (x3, h)) else (if (x1 + 8) ≤ x5 then (some (x3, h)) else (if x0 < hz h ∧ hk h x0 = 1 then (match f_b_octet x0 x5 h with | none => none | some r4 => (K5 x0 x1 x2 ((x3 <<< ((Int32.toInt64 8) &&& 63)) ||| (Int32.toInt64 r4.1)) (x5 + 1) r4.2)) else none)))
set_option maxRecDepth 20000 in
theorem ks_b_packed_5 {l : Launch} {G : XG} {d : Nat} {K5 : Nat → Int32 → Int32 → Int64 → Int32 → XH → Option (Int64 × XH)} {x0 : Nat} {x1 : Int32} {x2 : Int32} {x3 : Int64} {x5 : Int32} {h : XH} {r : Int64 × XH} (hK5 : ∀ (x0 : Nat) (x1 : Int32) (x2 : Int32) (x3 : Int64) (x5 : Int32) (h : XH), LY h → K5 x0 x1 x2 x3 x5 h = some r → XR l G xEX1_packed (d + 1) (5, [some (.ref x0), some (.int x1), some (.int x2), some (.long x3), none, some (.int x5)], [], h) (fun C => ∃ v, xRet xEX1_packed C v ∧ (C.2.2.2 = r.2 ∧ v = some (.long r.1)) ∧ LY r.2)) (L0 : LY h) (hf : s_b_packed_5 K5 x0 x1 x2 x3 x5 h = some r) : XR l G xEX1_packed (d + 1) (5, [some (.ref x0), some (.int x1), some (.int x2), some (.long x3), none, some (.int x5)], [], h) (fun C => ∃ v, xRet xEX1_packed C v ∧ (C.2.2.2 = r.2 ∧ v = some (.long r.1)) ∧ LY r.2) := by
  unfold s_b_packed_5 at hf
  refine XS.go (s_iload rfl rfl) ?_
  refine XS.go (s_iloadn rfl rfl rfl) ?_
  refine r_icmp_ge (tgt := 39) rfl rfl (fun qc1 => ?_) (fun qc1 => ?_)
  · rw [if_pos qc1] at hf
    refine XS.go (s_lloadn rfl rfl rfl) ?_
    cases hf
    exact XR.retl rfl rfl (fun hret => ⟨_, hret, ⟨rfl, rfl⟩, L0⟩)
  · rw [if_neg qc1] at hf
    refine XS.go (s_iload rfl rfl) ?_
    refine XS.go (s_iloadn rfl rfl rfl) ?_
    refine XS.go (s_bipush (v := 8) rfl rfl) ?_
    refine XS.go (s_iadd rfl) ?_
    refine r_icmp_ge (tgt := 39) rfl rfl (fun qc2 => ?_) (fun qc2 => ?_)
    · rw [if_pos qc2] at hf
      refine XS.go (s_lloadn rfl rfl rfl) ?_
      cases hf
      exact XR.retl rfl rfl (fun hret => ⟨_, hret, ⟨rfl, rfl⟩, L0⟩)
    · rw [if_neg qc2] at hf
      refine XS.go (s_lloadn rfl rfl rfl) ?_
      refine XS.go (s_bipush (v := 8) rfl rfl) ?_
      refine XS.go (s_lshl rfl) ?_
      refine XS.go (s_aloadn rfl rfl rfl) ?_
      refine XS.go (s_iload rfl rfl) ?_
      by_cases qk3 : x0 < hz h ∧ hk h x0 = 1
      rotate_left
      · rw [if_neg qk3] at hf; cases hf
      rw [if_pos qk3] at hf
      rcases e5 : f_b_octet x0 x5 h with _ | r4
      · rw [e5] at hf; cases hf
      rw [e5] at hf; dsimp only at hf
      refine r_callv rfl xvX1_octet xm1_19 (kf_b_octet (d := d) L0 e5) qk3.1 qk3.2 (by decide) rfl rfl (by omega) (by decide) (Nat.le_of_ble_eq_true rfl) ?_
      rintro _ _ ⟨⟨rfl, rfl⟩, L6⟩
      refine XS.go (s_i2l rfl) ?_
      refine XS.go (s_lor rfl) ?_
      refine XS.go (s_lstoren rfl rfl (Nat.le_of_ble_eq_true rfl)) ?_
      refine XS.go (s_inc rfl rfl (Nat.le_of_ble_eq_true rfl)) ?_
      refine XS.go (s_goto (tgt := 5) rfl rfl) ?_
      exact XR.forget (L2 := [some (.ref x0), some (.int x1), some (.int x2), some (.long ((x3 <<< ((Int32.toInt64 8) &&& 63)) ||| (Int32.toInt64 r4.1))), none, some (.int (x5 + 1))]) ⟨rfl, ⟨rfl, ⟨rfl, ⟨rfl, ⟨rfl, trivial⟩⟩⟩⟩⟩ (hK5 x0 x1 x2 ((x3 <<< ((Int32.toInt64 8) &&& 63)) ||| (Int32.toInt64 r4.1)) (x5 + 1) _ L6 hf)
def b_b_packed_5 : Nat → Nat → Int32 → Int32 → Int64 → Int32 → XH → Option (Int64 × XH)
  | 0, _, _, _, _, _, _ => none
  | n + 1, x0, x1, x2, x3, x5, h => s_b_packed_5 (b_b_packed_5 n) x0 x1 x2 x3 x5 h
theorem kb_b_packed_5 {l : Launch} {G : XG} {d : Nat} {n : Nat} {x0 : Nat} {x1 : Int32} {x2 : Int32} {x3 : Int64} {x5 : Int32} {h : XH} {r : Int64 × XH} (L0 : LY h) (hf : b_b_packed_5 n x0 x1 x2 x3 x5 h = some r) : XR l G xEX1_packed (d + 1) (5, [some (.ref x0), some (.int x1), some (.int x2), some (.long x3), none, some (.int x5)], [], h) (fun C => ∃ v, xRet xEX1_packed C v ∧ (C.2.2.2 = r.2 ∧ v = some (.long r.1)) ∧ LY r.2) := by
  induction n generalizing x0 x1 x2 x3 x5 h with
  | zero => cases hf
  | succ n ih => exact ks_b_packed_5 (fun x0 x1 x2 x3 x5 h L0 hf => ih (h := h) (x0 := x0) (x1 := x1) (x2 := x2) (x3 := x3) (x5 := x5) L0 hf) L0 hf
def f_b_packed (t : Nat) (a0 : Int32) (a1 : Int32) (h : XH) : Option (Int64 × XH) := (b_b_packed_5 100000 t a0 a1 0 a0 h)
set_option maxRecDepth 20000 in
theorem kf_b_packed {l : Launch} {G : XG} {d : Nat} {t : Nat} {a0 : Int32} {a1 : Int32} {h : XH} {r : Int64 × XH} (L0 : LY h) (hf : f_b_packed t a0 a1 h = some r) : XC l G xEX1_packed (d + 1) [.ref t, .int a0, .int a1] h (fun v h2 => (h2 = r.2 ∧ v = some (.long r.1)) ∧ LY r.2) := by
  refine XC.virt xvX1_packed (Nat.le_of_ble_eq_true rfl) ?_
  unfold f_b_packed at hf
  refine XS.go (s_lconst (v := 0) rfl rfl) ?_
  refine XS.go (s_lstoren rfl rfl (Nat.le_of_ble_eq_true rfl)) ?_
  refine XS.go (s_iloadn rfl rfl rfl) ?_
  refine XS.go (s_istore rfl (Nat.le_of_ble_eq_true rfl)) ?_
  exact XR.forget (L2 := [some (.ref t), some (.int a0), some (.int a1), some (.long 0), none, some (.int a0)]) ⟨rfl, ⟨rfl, ⟨rfl, ⟨rfl, ⟨rfl, trivial⟩⟩⟩⟩⟩ (kb_b_packed_5 L0 hf)
def f_b_behind (t : Nat) (a0 : Int32) (h : XH) : Option (Int32 × XH) := (if t < hz h ∧ hk h t = 1 then (match f_b_number t a0 4 h with | none => none | some r2 => (some ((Int64.toInt32 ((Int32.toInt64 a0) + r2.1)), r2.2))) else none)
set_option maxRecDepth 20000 in
theorem kf_b_behind {l : Launch} {G : XG} {d : Nat} {t : Nat} {a0 : Int32} {h : XH} {r : Int32 × XH} (L0 : LY h) (hf : f_b_behind t a0 h = some r) : XC l G xEX1_behind (d + 1) [.ref t, .int a0] h (fun v h2 => (h2 = r.2 ∧ v = some (.int r.1)) ∧ LY r.2) := by
  refine XC.virt xvX1_behind (Nat.le_of_ble_eq_true rfl) ?_
  unfold f_b_behind at hf
  refine XS.go (s_iloadn rfl rfl rfl) ?_
  refine XS.go (s_i2l rfl) ?_
  refine XS.go (s_aloadn rfl rfl rfl) ?_
  refine XS.go (s_iloadn rfl rfl rfl) ?_
  refine XS.go (s_iconst (v := 4) rfl rfl) ?_
  by_cases qk1 : t < hz h ∧ hk h t = 1
  rotate_left
  · rw [if_neg qk1] at hf; cases hf
  rw [if_pos qk1] at hf
  rcases e3 : f_b_number t a0 4 h with _ | r2
  · rw [e3] at hf; cases hf
  rw [e3] at hf; dsimp only at hf
  refine r_callv rfl xvX1_number xm1_30 (kf_b_number (d := d) L0 e3) qk1.1 qk1.2 (by decide) rfl rfl (by omega) (by decide) (Nat.le_of_ble_eq_true rfl) ?_
  rintro _ _ ⟨⟨rfl, rfl⟩, L4⟩
  refine XS.go (s_ladd rfl) ?_
  refine XS.go (s_l2i rfl) ?_
  cases hf
  exact XR.reti rfl rfl (fun hret => ⟨_, hret, ⟨rfl, rfl⟩, L4⟩)
def f_b_listOf (t : Nat) (a0 : Int32) (h : XH) : Option (Int64 × XH) := (if t < hz h ∧ hk h t = 1 then (match f_b_number t a0 4 h with | none => none | some r2 => (some (((Int32.toInt64 a0) - (Int32.toInt64 (Int64.toInt32 r2.1))), r2.2))) else none)
set_option maxRecDepth 20000 in
theorem kf_b_listOf {l : Launch} {G : XG} {d : Nat} {t : Nat} {a0 : Int32} {h : XH} {r : Int64 × XH} (L0 : LY h) (hf : f_b_listOf t a0 h = some r) : XC l G xEX1_listOf (d + 1) [.ref t, .int a0] h (fun v h2 => (h2 = r.2 ∧ v = some (.long r.1)) ∧ LY r.2) := by
  refine XC.virt xvX1_listOf (Nat.le_of_ble_eq_true rfl) ?_
  unfold f_b_listOf at hf
  refine XS.go (s_iloadn rfl rfl rfl) ?_
  refine XS.go (s_i2l rfl) ?_
  refine XS.go (s_aloadn rfl rfl rfl) ?_
  refine XS.go (s_iloadn rfl rfl rfl) ?_
  refine XS.go (s_iconst (v := 4) rfl rfl) ?_
  by_cases qk1 : t < hz h ∧ hk h t = 1
  rotate_left
  · rw [if_neg qk1] at hf; cases hf
  rw [if_pos qk1] at hf
  rcases e3 : f_b_number t a0 4 h with _ | r2
  · rw [e3] at hf; cases hf
  rw [e3] at hf; dsimp only at hf
  refine r_callv rfl xvX1_number xm1_30 (kf_b_number (d := d) L0 e3) qk1.1 qk1.2 (by decide) rfl rfl (by omega) (by decide) (Nat.le_of_ble_eq_true rfl) ?_
  rintro _ _ ⟨⟨rfl, rfl⟩, L4⟩
  refine XS.go (s_l2i rfl) ?_
  refine XS.go (s_i2l rfl) ?_
  refine XS.go (s_lsub rfl) ?_
  cases hf
  exact XR.retl rfl rfl (fun hret => ⟨_, hret, ⟨rfl, rfl⟩, L4⟩)
def f_b_slotNumber (t : Nat) (a0 : Int32) (a1 : Int32) (h : XH) : Option (Int32 × XH) := (if t < hz h ∧ hk h t = 1 then (match f_b_number t a0 2 h with | none => none | some r2 => (if (lg_cmp (Int32.toInt64 ((4 + (2 * a1)) + 2)) r2.1) ≤ 0 then (if t < hz r2.2 ∧ hk r2.2 t = 1 then (match f_b_number t (a0 + (4 + (2 * a1))) 2 r2.2 with | none => none | some r7 => (some ((Int64.toInt32 r7.1), r7.2))) else none) else (some (0, r2.2)))) else none)
set_option maxRecDepth 20000 in
theorem kf_b_slotNumber {l : Launch} {G : XG} {d : Nat} {t : Nat} {a0 : Int32} {a1 : Int32} {h : XH} {r : Int32 × XH} (L0 : LY h) (hf : f_b_slotNumber t a0 a1 h = some r) : XC l G xEX1_slotNumber (d + 1) [.ref t, .int a0, .int a1] h (fun v h2 => (h2 = r.2 ∧ v = some (.int r.1)) ∧ LY r.2) := by
  refine XC.virt xvX1_slotNumber (Nat.le_of_ble_eq_true rfl) ?_
  unfold f_b_slotNumber at hf
  refine XS.go (s_iconst (v := 4) rfl rfl) ?_
  refine XS.go (s_iconst (v := 2) rfl rfl) ?_
  refine XS.go (s_iloadn rfl rfl rfl) ?_
  refine XS.go (s_imul rfl) ?_
  refine XS.go (s_iadd rfl) ?_
  refine XS.go (s_istoren rfl rfl (Nat.le_of_ble_eq_true rfl)) ?_
  refine XS.go (s_iloadn rfl rfl rfl) ?_
  refine XS.go (s_iconst (v := 2) rfl rfl) ?_
  refine XS.go (s_iadd rfl) ?_
  refine XS.go (s_i2l rfl) ?_
  refine XS.go (s_aloadn rfl rfl rfl) ?_
  refine XS.go (s_iloadn rfl rfl rfl) ?_
  refine XS.go (s_iconst (v := 2) rfl rfl) ?_
  by_cases qk1 : t < hz h ∧ hk h t = 1
  rotate_left
  · rw [if_neg qk1] at hf; cases hf
  rw [if_pos qk1] at hf
  rcases e3 : f_b_number t a0 2 h with _ | r2
  · rw [e3] at hf; cases hf
  rw [e3] at hf; dsimp only at hf
  refine r_callv rfl xvX1_number xm1_30 (kf_b_number (d := d) L0 e3) qk1.1 qk1.2 (by decide) rfl rfl (by omega) (by decide) (Nat.le_of_ble_eq_true rfl) ?_
  rintro _ _ ⟨⟨rfl, rfl⟩, L4⟩
  refine XS.go (s_lcmp rfl) ?_
  refine r_if_le (tgt := 24) rfl rfl (fun qc5 => ?_) (fun qc5 => ?_)
  · rw [if_pos qc5] at hf
    refine XS.go (s_aloadn rfl rfl rfl) ?_
    refine XS.go (s_iloadn rfl rfl rfl) ?_
    refine XS.go (s_iloadn rfl rfl rfl) ?_
    refine XS.go (s_iadd rfl) ?_
    refine XS.go (s_iconst (v := 2) rfl rfl) ?_
    by_cases qk6 : t < hz r2.2 ∧ hk r2.2 t = 1
    rotate_left
    · rw [if_neg qk6] at hf; cases hf
    rw [if_pos qk6] at hf
    rcases e8 : f_b_number t (a0 + (4 + (2 * a1))) 2 r2.2 with _ | r7
    · rw [e8] at hf; cases hf
    rw [e8] at hf; dsimp only at hf
    refine r_callv rfl xvX1_number xm1_30 (kf_b_number (d := d) L4 e8) qk6.1 qk6.2 (by decide) rfl rfl (by omega) (by decide) (Nat.le_of_ble_eq_true rfl) ?_
    rintro _ _ ⟨⟨rfl, rfl⟩, L9⟩
    refine XS.go (s_l2i rfl) ?_
    cases hf
    exact XR.reti rfl rfl (fun hret => ⟨_, hret, ⟨rfl, rfl⟩, L9⟩)
  · rw [if_neg qc5] at hf
    refine XS.go (s_iconst (v := 0) rfl rfl) ?_
    refine XS.go (s_goto (tgt := 33) rfl rfl) ?_
    cases hf
    exact XR.reti rfl rfl (fun hret => ⟨_, hret, ⟨rfl, rfl⟩, L4⟩)
def f_b_storedAt (t : Nat) (a0 : Int32) (a1 : Int32) (h : XH) : Option (Int32 × XH) := (if t < hz h ∧ hk h t = 1 then (match f_b_listOf t a0 h with | none => none | some r2 => (if t < hz r2.2 ∧ hk r2.2 t = 1 then (match f_b_slotNumber t (Int64.toInt32 r2.1) a1 r2.2 with | none => none | some r6 => (if ¬ r6.1 = 0 then (some ((a0 + r6.1), r6.2)) else (some ((-1), r6.2)))) else none)) else none)
set_option maxRecDepth 20000 in
theorem kf_b_storedAt {l : Launch} {G : XG} {d : Nat} {t : Nat} {a0 : Int32} {a1 : Int32} {h : XH} {r : Int32 × XH} (L0 : LY h) (hf : f_b_storedAt t a0 a1 h = some r) : XC l G xEX1_storedAt (d + 2) [.ref t, .int a0, .int a1] h (fun v h2 => (h2 = r.2 ∧ v = some (.int r.1)) ∧ LY r.2) := by
  refine XC.virt xvX1_storedAt (Nat.le_of_ble_eq_true rfl) ?_
  unfold f_b_storedAt at hf
  refine XS.go (s_aloadn rfl rfl rfl) ?_
  refine XS.go (s_aloadn rfl rfl rfl) ?_
  refine XS.go (s_iloadn rfl rfl rfl) ?_
  by_cases qk1 : t < hz h ∧ hk h t = 1
  rotate_left
  · rw [if_neg qk1] at hf; cases hf
  rw [if_pos qk1] at hf
  rcases e3 : f_b_listOf t a0 h with _ | r2
  · rw [e3] at hf; cases hf
  rw [e3] at hf; dsimp only at hf
  refine r_callv rfl xvX1_listOf xm1_38 (kf_b_listOf (d := d) L0 e3) qk1.1 qk1.2 (by decide) rfl rfl (by omega) (by decide) (Nat.le_of_ble_eq_true rfl) ?_
  rintro _ _ ⟨⟨rfl, rfl⟩, L4⟩
  refine XS.go (s_l2i rfl) ?_
  refine XS.go (s_iloadn rfl rfl rfl) ?_
  by_cases qk5 : t < hz r2.2 ∧ hk r2.2 t = 1
  rotate_left
  · rw [if_neg qk5] at hf; cases hf
  rw [if_pos qk5] at hf
  rcases e7 : f_b_slotNumber t (Int64.toInt32 r2.1) a1 r2.2 with _ | r6
  · rw [e7] at hf; cases hf
  rw [e7] at hf; dsimp only at hf
  refine r_callv rfl xvX1_slotNumber xm1_42 (kf_b_slotNumber (d := d) L4 e7) qk5.1 qk5.2 (by decide) rfl rfl (by omega) (by decide) (Nat.le_of_ble_eq_true rfl) ?_
  rintro _ _ ⟨⟨rfl, rfl⟩, L8⟩
  refine XS.go (s_istoren rfl rfl (Nat.le_of_ble_eq_true rfl)) ?_
  refine XS.go (s_iloadn rfl rfl rfl) ?_
  refine r_if_ne (tgt := 20) rfl rfl (fun qc9 => ?_) (fun qc9 => ?_)
  · rw [if_pos qc9] at hf
    refine XS.go (s_iloadn rfl rfl rfl) ?_
    refine XS.go (s_iloadn rfl rfl rfl) ?_
    refine XS.go (s_iadd rfl) ?_
    cases hf
    exact XR.reti rfl rfl (fun hret => ⟨_, hret, ⟨rfl, rfl⟩, L8⟩)
  · rw [if_neg qc9] at hf
    refine XS.go (s_iconst (v := (-1)) rfl rfl) ?_
    refine XS.go (s_goto (tgt := 23) rfl rfl) ?_
    cases hf
    exact XR.reti rfl rfl (fun hret => ⟨_, hret, ⟨rfl, rfl⟩, L8⟩)
def f_f_init (t : Nat) (h : XH) : Option (Unit × XH) := (if t < hz h ∧ hk h t = 3 then (some ((), (hsj (hsi (hsi (hsi (hsi (hsi (hsi (hsj (hsj h t 0 0) t 1 0) t 2 (-1)) t 3 (-1)) t 4 0) t 5 (-1)) t 6 0) t 7 0) t 8 0))) else none)
set_option maxRecDepth 20000 in
theorem kf_f_init {l : Launch} {G : XG} {d : Nat} {t : Nat} {h : XH} {r : Unit × XH} (L0 : LY h) (hf : f_f_init t h = some r) : XC l G xEX3_init (d + 1) [.ref t] h (fun v h2 => (h2 = r.2 ∧ v = none) ∧ LY r.2) := by
  refine XC.init xnX3_init (Nat.le_of_ble_eq_true rfl) ?_
  unfold f_f_init at hf
  refine XS.go (s_aloadn rfl rfl rfl) ?_
  refine XS.go (s_objInit rfl (lg_1 119 rfl rfl) (lg_1 33 rfl rfl) (lg_1 34 rfl rfl) (by omega) (Nat.le_of_ble_eq_true rfl)) ?_
  refine XS.go (s_aloadn rfl rfl rfl) ?_
  refine XS.go (s_lconst (v := 0) rfl rfl) ?_
  by_cases qk1 : t < hz h ∧ hk h t = 3
  rotate_left
  · rw [if_neg qk1] at hf; cases hf
  rw [if_pos qk1] at hf
  refine XS.go (s_putj rfl xf3_9 qk1.1 qk1.2 (by decide) rfl (Or.inl rfl)) ?_
  refine XS.go (s_aloadn rfl rfl rfl) ?_
  refine XS.go (s_lconst (v := 0) rfl rfl) ?_
  refine XS.go (s_putj rfl xf3_15 (by simp only [hz_hsi, hk_hsi, hz_hsj, hk_hsj]; exact qk1.1) (by simp only [hz_hsi, hk_hsi, hz_hsj, hk_hsj]; exact qk1.2) (by decide) rfl (Or.inl rfl)) ?_
  refine XS.go (s_aloadn rfl rfl rfl) ?_
  refine XS.go (s_iconst (v := (-1)) rfl rfl) ?_
  refine XS.go (s_puti rfl xf3_18 (by simp only [hz_hsi, hk_hsi, hz_hsj, hk_hsj]; exact qk1.1) (by simp only [hz_hsi, hk_hsi, hz_hsj, hk_hsj]; exact qk1.2) (by decide) rfl (Or.inl rfl)) ?_
  refine XS.go (s_aloadn rfl rfl rfl) ?_
  refine XS.go (s_iconst (v := (-1)) rfl rfl) ?_
  refine XS.go (s_puti rfl xf3_22 (by simp only [hz_hsi, hk_hsi, hz_hsj, hk_hsj]; exact qk1.1) (by simp only [hz_hsi, hk_hsi, hz_hsj, hk_hsj]; exact qk1.2) (by decide) rfl (Or.inl rfl)) ?_
  refine XS.go (s_aloadn rfl rfl rfl) ?_
  refine XS.go (s_iconst (v := 0) rfl rfl) ?_
  refine XS.go (s_puti rfl xf3_25 (by simp only [hz_hsi, hk_hsi, hz_hsj, hk_hsj]; exact qk1.1) (by simp only [hz_hsi, hk_hsi, hz_hsj, hk_hsj]; exact qk1.2) (by decide) rfl (Or.inl rfl)) ?_
  refine XS.go (s_aloadn rfl rfl rfl) ?_
  refine XS.go (s_iconst (v := (-1)) rfl rfl) ?_
  refine XS.go (s_puti rfl xf3_28 (by simp only [hz_hsi, hk_hsi, hz_hsj, hk_hsj]; exact qk1.1) (by simp only [hz_hsi, hk_hsi, hz_hsj, hk_hsj]; exact qk1.2) (by decide) rfl (Or.inl rfl)) ?_
  refine XS.go (s_aloadn rfl rfl rfl) ?_
  refine XS.go (s_iconst (v := 0) rfl rfl) ?_
  refine XS.go (s_puti rfl xf3_31 (by simp only [hz_hsi, hk_hsi, hz_hsj, hk_hsj]; exact qk1.1) (by simp only [hz_hsi, hk_hsi, hz_hsj, hk_hsj]; exact qk1.2) (by decide) rfl (Or.inl rfl)) ?_
  refine XS.go (s_aloadn rfl rfl rfl) ?_
  refine XS.go (s_iconst (v := 0) rfl rfl) ?_
  refine XS.go (s_putz rfl xf3_34 (by simp only [hz_hsi, hk_hsi, hz_hsj, hk_hsj]; exact qk1.1) (by simp only [hz_hsi, hk_hsi, hz_hsj, hk_hsj]; exact qk1.2) (by decide) rfl (Or.inl rfl) (by decide)) ?_
  refine XS.go (s_aloadn rfl rfl rfl) ?_
  refine XS.go (s_lconst (v := 0) rfl rfl) ?_
  refine XS.go (s_putj rfl xf3_38 (by simp only [hz_hsi, hk_hsi, hz_hsj, hk_hsj]; exact qk1.1) (by simp only [hz_hsi, hk_hsi, hz_hsj, hk_hsj]; exact qk1.2) (by decide) rfl (Or.inl rfl)) ?_
  cases hf
  exact XR.retv rfl rfl (fun hret => ⟨_, hret, ⟨rfl, rfl⟩, (by simp only [LY_si, LY_sj]; exact L0)⟩)
def f_d_restart (t : Nat) (a0 : Int64) (a1 : Int64) (h : XH) : Option (Unit × XH) := (if t < hz h ∧ hk h t = 2 then (some ((), (hsi (hsi (hsi (hsi (hsi (hsj (hsj h t 4 a0) t 5 a1) t 3 0) t 6 0) t 7 1) t 8 0) t 11 0))) else none)
set_option maxRecDepth 20000 in
theorem kf_d_restart {l : Launch} {G : XG} {d : Nat} {t : Nat} {a0 : Int64} {a1 : Int64} {h : XH} {r : Unit × XH} (L0 : LY h) (hf : f_d_restart t a0 a1 h = some r) : XC l G xEX2_restart d [.ref t, .long a0, .long a1] h (fun v h2 => (h2 = r.2 ∧ v = none) ∧ LY r.2) := by
  refine XC.virt xvX2_restart (Nat.le_of_ble_eq_true rfl) ?_
  unfold f_d_restart at hf
  refine XS.go (s_aloadn rfl rfl rfl) ?_
  refine XS.go (s_lloadn rfl rfl rfl) ?_
  by_cases qk1 : t < hz h ∧ hk h t = 2
  rotate_left
  · rw [if_neg qk1] at hf; cases hf
  rw [if_pos qk1] at hf
  refine XS.go (s_putj rfl xf2_15 qk1.1 qk1.2 (by decide) rfl (Or.inl rfl)) ?_
  refine XS.go (s_aloadn rfl rfl rfl) ?_
  refine XS.go (s_lloadn rfl rfl rfl) ?_
  refine XS.go (s_putj rfl xf2_19 (by simp only [hz_hsi, hk_hsi, hz_hsj, hk_hsj]; exact qk1.1) (by simp only [hz_hsi, hk_hsi, hz_hsj, hk_hsj]; exact qk1.2) (by decide) rfl (Or.inl rfl)) ?_
  refine XS.go (s_aloadn rfl rfl rfl) ?_
  refine XS.go (s_iconst (v := 0) rfl rfl) ?_
  refine XS.go (s_puti rfl xf2_9 (by simp only [hz_hsi, hk_hsi, hz_hsj, hk_hsj]; exact qk1.1) (by simp only [hz_hsi, hk_hsi, hz_hsj, hk_hsj]; exact qk1.2) (by decide) rfl (Or.inl rfl)) ?_
  refine XS.go (s_aloadn rfl rfl rfl) ?_
  refine XS.go (s_iconst (v := 0) rfl rfl) ?_
  refine XS.go (s_puti rfl xf2_22 (by simp only [hz_hsi, hk_hsi, hz_hsj, hk_hsj]; exact qk1.1) (by simp only [hz_hsi, hk_hsi, hz_hsj, hk_hsj]; exact qk1.2) (by decide) rfl (Or.inl rfl)) ?_
  refine XS.go (s_aloadn rfl rfl rfl) ?_
  refine XS.go (s_iconst (v := 1) rfl rfl) ?_
  refine XS.go (s_puti rfl xf2_25 (by simp only [hz_hsi, hk_hsi, hz_hsj, hk_hsj]; exact qk1.1) (by simp only [hz_hsi, hk_hsi, hz_hsj, hk_hsj]; exact qk1.2) (by decide) rfl (Or.inl rfl)) ?_
  refine XS.go (s_aloadn rfl rfl rfl) ?_
  refine XS.go (s_iconst (v := 0) rfl rfl) ?_
  refine XS.go (s_puti rfl xf2_28 (by simp only [hz_hsi, hk_hsi, hz_hsj, hk_hsj]; exact qk1.1) (by simp only [hz_hsi, hk_hsi, hz_hsj, hk_hsj]; exact qk1.2) (by decide) rfl (Or.inl rfl)) ?_
  refine XS.go (s_aloadn rfl rfl rfl) ?_
  refine XS.go (s_iconst (v := 0) rfl rfl) ?_
  refine XS.go (s_puti rfl xf2_31 (by simp only [hz_hsi, hk_hsi, hz_hsj, hk_hsj]; exact qk1.1) (by simp only [hz_hsi, hk_hsi, hz_hsj, hk_hsj]; exact qk1.2) (by decide) rfl (Or.inl rfl)) ?_
  cases hf
  exact XR.retv rfl rfl (fun hret => ⟨_, hret, ⟨rfl, rfl⟩, (by simp only [LY_si, LY_sj]; exact L0)⟩)
def b_d_fieldNamed_55 (K3 : Nat → Int64 → Int64 → Int32 → XH → Option (Int32 × XH)) (x0 : Nat) (x1 : Int64) (x3 : Int64) (x5 : Int32) (h : XH) : Option (Int32 × XH) := (K3 x0 x1 x3 (x5 + 1) h)
set_option maxRecDepth 20000 in
theorem kb_d_fieldNamed_55 {l : Launch} {G : XG} {d : Nat} {K3 : Nat → Int64 → Int64 → Int32 → XH → Option (Int32 × XH)} {x0 : Nat} {x1 : Int64} {x3 : Int64} {x5 : Int32} {h : XH} {r : Int32 × XH} (hK3 : ∀ (x0 : Nat) (x1 : Int64) (x3 : Int64) (x5 : Int32) (h : XH), LY h → K3 x0 x1 x3 x5 h = some r → XR l G xEX2_fieldNamed d (3, [some (.ref x0), some (.long x1), none, some (.long x3), none, some (.int x5)], [], h) (fun C => ∃ v, xRet xEX2_fieldNamed C v ∧ (C.2.2.2 = r.2 ∧ v = some (.int r.1)) ∧ LY r.2)) (L0 : LY h) (hf : b_d_fieldNamed_55 K3 x0 x1 x3 x5 h = some r) : XR l G xEX2_fieldNamed d (55, [some (.ref x0), some (.long x1), none, some (.long x3), none, some (.int x5)], [], h) (fun C => ∃ v, xRet xEX2_fieldNamed C v ∧ (C.2.2.2 = r.2 ∧ v = some (.int r.1)) ∧ LY r.2) := by
  unfold b_d_fieldNamed_55 at hf
  refine XS.go (s_inc rfl rfl (Nat.le_of_ble_eq_true rfl)) ?_
  refine XS.go (s_goto (tgt := 3) rfl rfl) ?_
  exact XR.forget (L2 := [some (.ref x0), some (.long x1), none, some (.long x3), none, some (.int (x5 + 1))]) ⟨rfl, ⟨rfl, ⟨rfl, ⟨rfl, trivial⟩⟩⟩⟩ (hK3 x0 x1 x3 (x5 + 1) _ L0 hf)
def s_d_fieldNamed_3 (K3 : Nat → Int64 → Int64 → Int32 → XH → Option (Int32 × XH)) (x0 : Nat) (x1 : Int64) (x3 : Int64) (x5 : Int32) (h : XH) : Option (Int32 × XH) := (if x0 < hz h ∧ hk h x0 = 2 then (if (hi h x0 3) ≤ x5 then (some ((-1), h)) else (match hr h x0 2 with | none => none | some b3 => (if b3 < hz h ∧ hk h b3 = 104 then (if (nI (hn h b3)) ≤ x5 then (some ((-1), h)) else (if 0 ≤ x5 ∧ x5 < nI (hn h b3) ∧ (hn h b3) < 2 ^ 31 then (match hr h b3 (Int32.toNatClampNeg x5) with | none => none | some b8 => (if b8 < hz h ∧ hk h b8 = 3 then (if ¬ (lg_cmp (hj h b8 0) x1) = 0 then (b_d_fieldNamed_55 K3 x0 x1 x3 x5 h) else (if ¬ (lg_cmp (hj h b8 1) x3) = 0 then (b_d_fieldNamed_55 K3 x0 x1 x3 x5 h) else (some (x5, h)))) else none)) else none)) else none))) else none)
set_option maxRecDepth 20000 in
theorem ks_d_fieldNamed_3 {l : Launch} {G : XG} {d : Nat} {K3 : Nat → Int64 → Int64 → Int32 → XH → Option (Int32 × XH)} {x0 : Nat} {x1 : Int64} {x3 : Int64} {x5 : Int32} {h : XH} {r : Int32 × XH} (hK3 : ∀ (x0 : Nat) (x1 : Int64) (x3 : Int64) (x5 : Int32) (h : XH), LY h → K3 x0 x1 x3 x5 h = some r → XR l G xEX2_fieldNamed d (3, [some (.ref x0), some (.long x1), none, some (.long x3), none, some (.int x5)], [], h) (fun C => ∃ v, xRet xEX2_fieldNamed C v ∧ (C.2.2.2 = r.2 ∧ v = some (.int r.1)) ∧ LY r.2)) (L0 : LY h) (hf : s_d_fieldNamed_3 K3 x0 x1 x3 x5 h = some r) : XR l G xEX2_fieldNamed d (3, [some (.ref x0), some (.long x1), none, some (.long x3), none, some (.int x5)], [], h) (fun C => ∃ v, xRet xEX2_fieldNamed C v ∧ (C.2.2.2 = r.2 ∧ v = some (.int r.1)) ∧ LY r.2) := by
  unfold s_d_fieldNamed_3 at hf
  refine XS.go (s_iload rfl rfl) ?_
  refine XS.go (s_aloadn rfl rfl rfl) ?_
  by_cases qk1 : x0 < hz h ∧ hk h x0 = 2
  rotate_left
  · rw [if_neg qk1] at hf; cases hf
  rw [if_pos qk1] at hf
  refine XS.go (s_getie rfl xf2_9 qk1.1 qk1.2 (by decide) rfl rfl) ?_
  refine r_icmp_ge (tgt := 61) rfl rfl (fun qc2 => ?_) (fun qc2 => ?_)
  · rw [if_pos qc2] at hf
    refine XS.go (s_iconst (v := (-1)) rfl rfl) ?_
    cases hf
    exact XR.reti rfl rfl (fun hret => ⟨_, hret, ⟨rfl, rfl⟩, L0⟩)
  · rw [if_neg qc2] at hf
    refine XS.go (s_iload rfl rfl) ?_
    refine XS.go (s_aloadn rfl rfl rfl) ?_
    rcases qr4 : hr h x0 2 with _ | b3
    · rw [qr4] at hf; cases hf
    rw [qr4] at hf; dsimp only at hf
    refine XS.go (s_getr rfl xf2_42 qk1.1 qk1.2 (by decide) rfl qr4) ?_
    by_cases qk5 : b3 < hz h ∧ hk h b3 = 104
    rotate_left
    · rw [if_neg qk5] at hf; cases hf
    rw [if_pos qk5] at hf
    refine XS.go (s_alene rfl qk5.1 qk5.2 rfl (by decide)) ?_
    refine r_icmp_ge (tgt := 61) rfl rfl (fun qc6 => ?_) (fun qc6 => ?_)
    · rw [if_pos qc6] at hf
      refine XS.go (s_iconst (v := (-1)) rfl rfl) ?_
      cases hf
      exact XR.reti rfl rfl (fun hret => ⟨_, hret, ⟨rfl, rfl⟩, L0⟩)
    · rw [if_neg qc6] at hf
      refine XS.go (s_aloadn rfl rfl rfl) ?_
      refine XS.go (s_getr rfl xf2_42 qk1.1 qk1.2 (by decide) rfl qr4) ?_
      refine XS.go (s_iload rfl rfl) ?_
      by_cases qk7 : 0 ≤ x5 ∧ x5 < nI (hn h b3) ∧ (hn h b3) < 2 ^ 31
      rotate_left
      · rw [if_neg qk7] at hf; cases hf
      rw [if_pos qk7] at hf
      rcases qr9 : hr h b3 (Int32.toNatClampNeg x5) with _ | b8
      · rw [qr9] at hf; cases hf
      rw [qr9] at hf; dsimp only at hf
      refine XS.go (s_aald104e rfl qk5.1 qk5.2 (inLit (N := hn h b3) rfl qk7.1 qk7.2.1 qk7.2.2) qr9) ?_
      by_cases qk10 : b8 < hz h ∧ hk h b8 = 3
      rotate_left
      · rw [if_neg qk10] at hf; cases hf
      rw [if_pos qk10] at hf
      refine XS.go (s_getje rfl xf2_54 qk10.1 qk10.2 (by decide) rfl rfl) ?_
      refine XS.go (s_lloadn rfl rfl rfl) ?_
      refine XS.go (s_lcmp rfl) ?_
      refine r_if_ne (tgt := 55) rfl rfl (fun qc11 => ?_) (fun qc11 => ?_)
      · rw [if_pos qc11] at hf
        exact XR.forget (L2 := [some (.ref x0), some (.long x1), none, some (.long x3), none, some (.int x5)]) ⟨rfl, ⟨rfl, ⟨rfl, ⟨rfl, trivial⟩⟩⟩⟩ (kb_d_fieldNamed_55 hK3 L0 hf)
      · rw [if_neg qc11] at hf
        refine XS.go (s_aloadn rfl rfl rfl) ?_
        refine XS.go (s_getr rfl xf2_42 qk1.1 qk1.2 (by decide) rfl qr4) ?_
        refine XS.go (s_iload rfl rfl) ?_
        refine XS.go (s_aald104e rfl qk5.1 qk5.2 (inLit (N := hn h b3) rfl qk7.1 qk7.2.1 qk7.2.2) qr9) ?_
        refine XS.go (s_getje rfl xf2_55 qk10.1 qk10.2 (by decide) rfl rfl) ?_
        refine XS.go (s_lloadn rfl rfl rfl) ?_
        refine XS.go (s_lcmp rfl) ?_
        refine r_if_ne (tgt := 55) rfl rfl (fun qc12 => ?_) (fun qc12 => ?_)
        · rw [if_pos qc12] at hf
          exact XR.forget (L2 := [some (.ref x0), some (.long x1), none, some (.long x3), none, some (.int x5)]) ⟨rfl, ⟨rfl, ⟨rfl, ⟨rfl, trivial⟩⟩⟩⟩ (kb_d_fieldNamed_55 hK3 L0 hf)
        · rw [if_neg qc12] at hf
          refine XS.go (s_iload rfl rfl) ?_
          cases hf
          exact XR.reti rfl rfl (fun hret => ⟨_, hret, ⟨rfl, rfl⟩, L0⟩)
def b_d_fieldNamed_3 : Nat → Nat → Int64 → Int64 → Int32 → XH → Option (Int32 × XH)
  | 0, _, _, _, _, _ => none
  | n + 1, x0, x1, x3, x5, h => s_d_fieldNamed_3 (b_d_fieldNamed_3 n) x0 x1 x3 x5 h
theorem kb_d_fieldNamed_3 {l : Launch} {G : XG} {d : Nat} {n : Nat} {x0 : Nat} {x1 : Int64} {x3 : Int64} {x5 : Int32} {h : XH} {r : Int32 × XH} (L0 : LY h) (hf : b_d_fieldNamed_3 n x0 x1 x3 x5 h = some r) : XR l G xEX2_fieldNamed d (3, [some (.ref x0), some (.long x1), none, some (.long x3), none, some (.int x5)], [], h) (fun C => ∃ v, xRet xEX2_fieldNamed C v ∧ (C.2.2.2 = r.2 ∧ v = some (.int r.1)) ∧ LY r.2) := by
  induction n generalizing x0 x1 x3 x5 h with
  | zero => cases hf
  | succ n ih => exact ks_d_fieldNamed_3 (fun x0 x1 x3 x5 h L0 hf => ih (h := h) (x0 := x0) (x1 := x1) (x3 := x3) (x5 := x5) L0 hf) L0 hf
def f_d_fieldNamed (t : Nat) (a0 : Int64) (a1 : Int64) (h : XH) : Option (Int32 × XH) := (b_d_fieldNamed_3 100000 t a0 a1 0 h)
set_option maxRecDepth 20000 in
theorem kf_d_fieldNamed {l : Launch} {G : XG} {d : Nat} {t : Nat} {a0 : Int64} {a1 : Int64} {h : XH} {r : Int32 × XH} (L0 : LY h) (hf : f_d_fieldNamed t a0 a1 h = some r) : XC l G xEX2_fieldNamed d [.ref t, .long a0, .long a1] h (fun v h2 => (h2 = r.2 ∧ v = some (.int r.1)) ∧ LY r.2) := by
  refine XC.virt xvX2_fieldNamed (Nat.le_of_ble_eq_true rfl) ?_
  unfold f_d_fieldNamed at hf
  refine XS.go (s_iconst (v := 0) rfl rfl) ?_
  refine XS.go (s_istore rfl (Nat.le_of_ble_eq_true rfl)) ?_
  exact XR.forget (L2 := [some (.ref t), some (.long a0), none, some (.long a1), none, some (.int 0)]) ⟨rfl, ⟨rfl, ⟨rfl, ⟨rfl, trivial⟩⟩⟩⟩ (kb_d_fieldNamed_3 L0 hf)
def f_f_restart (t : Nat) (a0 : Int64) (a1 : Int64) (h : XH) : Option (Unit × XH) := (if t < hz h ∧ hk h t = 3 then (some ((), (hsj (hsi (hsi (hsi (hsi (hsi (hsi (hsj (hsj h t 0 a0) t 1 a1) t 2 (-1)) t 3 (-1)) t 4 0) t 5 (-1)) t 6 0) t 7 0) t 8 0))) else none)
set_option maxRecDepth 20000 in
theorem kf_f_restart {l : Launch} {G : XG} {d : Nat} {t : Nat} {a0 : Int64} {a1 : Int64} {h : XH} {r : Unit × XH} (L0 : LY h) (hf : f_f_restart t a0 a1 h = some r) : XC l G xEX3_restart d [.ref t, .long a0, .long a1] h (fun v h2 => (h2 = r.2 ∧ v = none) ∧ LY r.2) := by
  refine XC.virt xvX3_restart (Nat.le_of_ble_eq_true rfl) ?_
  unfold f_f_restart at hf
  refine XS.go (s_aloadn rfl rfl rfl) ?_
  refine XS.go (s_lloadn rfl rfl rfl) ?_
  by_cases qk1 : t < hz h ∧ hk h t = 3
  rotate_left
  · rw [if_neg qk1] at hf; cases hf
  rw [if_pos qk1] at hf
  refine XS.go (s_putj rfl xf3_9 qk1.1 qk1.2 (by decide) rfl (Or.inl rfl)) ?_
  refine XS.go (s_aloadn rfl rfl rfl) ?_
  refine XS.go (s_lloadn rfl rfl rfl) ?_
  refine XS.go (s_putj rfl xf3_15 (by simp only [hz_hsi, hk_hsi, hz_hsj, hk_hsj]; exact qk1.1) (by simp only [hz_hsi, hk_hsi, hz_hsj, hk_hsj]; exact qk1.2) (by decide) rfl (Or.inl rfl)) ?_
  refine XS.go (s_aloadn rfl rfl rfl) ?_
  refine XS.go (s_iconst (v := (-1)) rfl rfl) ?_
  refine XS.go (s_puti rfl xf3_18 (by simp only [hz_hsi, hk_hsi, hz_hsj, hk_hsj]; exact qk1.1) (by simp only [hz_hsi, hk_hsi, hz_hsj, hk_hsj]; exact qk1.2) (by decide) rfl (Or.inl rfl)) ?_
  refine XS.go (s_aloadn rfl rfl rfl) ?_
  refine XS.go (s_iconst (v := (-1)) rfl rfl) ?_
  refine XS.go (s_puti rfl xf3_22 (by simp only [hz_hsi, hk_hsi, hz_hsj, hk_hsj]; exact qk1.1) (by simp only [hz_hsi, hk_hsi, hz_hsj, hk_hsj]; exact qk1.2) (by decide) rfl (Or.inl rfl)) ?_
  refine XS.go (s_aloadn rfl rfl rfl) ?_
  refine XS.go (s_iconst (v := 0) rfl rfl) ?_
  refine XS.go (s_puti rfl xf3_25 (by simp only [hz_hsi, hk_hsi, hz_hsj, hk_hsj]; exact qk1.1) (by simp only [hz_hsi, hk_hsi, hz_hsj, hk_hsj]; exact qk1.2) (by decide) rfl (Or.inl rfl)) ?_
  refine XS.go (s_aloadn rfl rfl rfl) ?_
  refine XS.go (s_iconst (v := (-1)) rfl rfl) ?_
  refine XS.go (s_puti rfl xf3_28 (by simp only [hz_hsi, hk_hsi, hz_hsj, hk_hsj]; exact qk1.1) (by simp only [hz_hsi, hk_hsi, hz_hsj, hk_hsj]; exact qk1.2) (by decide) rfl (Or.inl rfl)) ?_
  refine XS.go (s_aloadn rfl rfl rfl) ?_
  refine XS.go (s_iconst (v := 0) rfl rfl) ?_
  refine XS.go (s_puti rfl xf3_31 (by simp only [hz_hsi, hk_hsi, hz_hsj, hk_hsj]; exact qk1.1) (by simp only [hz_hsi, hk_hsi, hz_hsj, hk_hsj]; exact qk1.2) (by decide) rfl (Or.inl rfl)) ?_
  refine XS.go (s_aloadn rfl rfl rfl) ?_
  refine XS.go (s_iconst (v := 0) rfl rfl) ?_
  refine XS.go (s_putz rfl xf3_34 (by simp only [hz_hsi, hk_hsi, hz_hsj, hk_hsj]; exact qk1.1) (by simp only [hz_hsi, hk_hsi, hz_hsj, hk_hsj]; exact qk1.2) (by decide) rfl (Or.inl rfl) (by decide)) ?_
  refine XS.go (s_aloadn rfl rfl rfl) ?_
  refine XS.go (s_lconst (v := 0) rfl rfl) ?_
  refine XS.go (s_putj rfl xf3_38 (by simp only [hz_hsi, hk_hsi, hz_hsj, hk_hsj]; exact qk1.1) (by simp only [hz_hsi, hk_hsi, hz_hsj, hk_hsj]; exact qk1.2) (by decide) rfl (Or.inl rfl)) ?_
  cases hf
  exact XR.retv rfl rfl (fun hret => ⟨_, hret, ⟨rfl, rfl⟩, (by simp only [LY_si, LY_sj]; exact L0)⟩)
def b_d_addField_19 (h : XH) : Option (Option Nat × XH) := (some (none, h))
set_option maxRecDepth 20000 in
theorem kb_d_addField_19 {l : Launch} {G : XG} {d : Nat} {h : XH} {r : Option Nat × XH} (L0 : LY h) (hf : b_d_addField_19 h = some r) : XR l G xEX2_addField (d + 1) (19, [none, none, none, none, none, none], [], h) (fun C => ∃ v, xRet xEX2_addField C v ∧ (C.2.2.2 = r.2 ∧ v = some (va_rf r.1)) ∧ LY r.2) := by
  unfold b_d_addField_19 at hf
  refine XS.go (s_null rfl) ?_
  cases hf
  exact XR.reta (o := none) rfl rfl (fun hret => ⟨_, hret, ⟨rfl, rfl⟩, L0⟩)
def f_d_addField (t : Nat) (a0 : Int64) (a1 : Int64) (h : XH) : Option (Option Nat × XH) := (if t < hz h ∧ hk h t = 2 then (if (hi h t 3) < 0 then (b_d_addField_19 h) else (match hr h t 2 with | none => none | some b3 => (if b3 < hz h ∧ hk h b3 = 104 then (if (hi h t 3) < (nI (hn h b3)) then (if 0 ≤ (hi h t 3) ∧ (hi h t 3) < nI (hn h b3) ∧ (hn h b3) < 2 ^ 31 then (match hr h b3 (Int32.toNatClampNeg (hi h t 3)) with | none => none | some b8 => (if b8 < hz h ∧ hk h b8 = 3 then (match f_f_restart b8 a0 a1 h with | none => none | some r11 => (if t < hz r11.2 ∧ hk r11.2 t = 2 then (some (some b8, (hsi r11.2 t 3 ((hi r11.2 t 3) + 1)))) else none)) else none)) else none) else (b_d_addField_19 h)) else none))) else none)
set_option maxRecDepth 20000 in
theorem kf_d_addField {l : Launch} {G : XG} {d : Nat} {t : Nat} {a0 : Int64} {a1 : Int64} {h : XH} {r : Option Nat × XH} (L0 : LY h) (hf : f_d_addField t a0 a1 h = some r) : XC l G xEX2_addField (d + 1) [.ref t, .long a0, .long a1] h (fun v h2 => (h2 = r.2 ∧ v = some (va_rf r.1)) ∧ LY r.2) := by
  refine XC.virt xvX2_addField (Nat.le_of_ble_eq_true rfl) ?_
  unfold f_d_addField at hf
  refine XS.go (s_aloadn rfl rfl rfl) ?_
  by_cases qk1 : t < hz h ∧ hk h t = 2
  rotate_left
  · rw [if_neg qk1] at hf; cases hf
  rw [if_pos qk1] at hf
  refine XS.go (s_getie rfl xf2_9 qk1.1 qk1.2 (by decide) rfl rfl) ?_
  refine r_if_lt (tgt := 19) rfl rfl (fun qc2 => ?_) (fun qc2 => ?_)
  · rw [if_pos qc2] at hf
    exact XR.forget (L2 := [none, none, none, none, none, none]) trivial (kb_d_addField_19 L0 hf)
  · rw [if_neg qc2] at hf
    refine XS.go (s_aloadn rfl rfl rfl) ?_
    refine XS.go (s_getie rfl xf2_9 qk1.1 qk1.2 (by decide) rfl rfl) ?_
    refine XS.go (s_aloadn rfl rfl rfl) ?_
    rcases qr4 : hr h t 2 with _ | b3
    · rw [qr4] at hf; cases hf
    rw [qr4] at hf; dsimp only at hf
    refine XS.go (s_getr rfl xf2_42 qk1.1 qk1.2 (by decide) rfl qr4) ?_
    by_cases qk5 : b3 < hz h ∧ hk h b3 = 104
    rotate_left
    · rw [if_neg qk5] at hf; cases hf
    rw [if_pos qk5] at hf
    refine XS.go (s_alene rfl qk5.1 qk5.2 rfl (by decide)) ?_
    refine r_icmp_lt (tgt := 21) rfl rfl (fun qc6 => ?_) (fun qc6 => ?_)
    · rw [if_pos qc6] at hf
      refine XS.go (s_aloadn rfl rfl rfl) ?_
      refine XS.go (s_getr rfl xf2_42 qk1.1 qk1.2 (by decide) rfl qr4) ?_
      refine XS.go (s_aloadn rfl rfl rfl) ?_
      refine XS.go (s_getie rfl xf2_9 qk1.1 qk1.2 (by decide) rfl rfl) ?_
      by_cases qk7 : 0 ≤ (hi h t 3) ∧ (hi h t 3) < nI (hn h b3) ∧ (hn h b3) < 2 ^ 31
      rotate_left
      · rw [if_neg qk7] at hf; cases hf
      rw [if_pos qk7] at hf
      rcases qr9 : hr h b3 (Int32.toNatClampNeg (hi h t 3)) with _ | b8
      · rw [qr9] at hf; cases hf
      rw [qr9] at hf; dsimp only at hf
      refine XS.go (s_aald104e rfl qk5.1 qk5.2 (inLit (N := hn h b3) rfl qk7.1 qk7.2.1 qk7.2.2) qr9) ?_
      refine XS.go (s_astore rfl (Nat.le_of_ble_eq_true rfl)) ?_
      refine XS.go (s_aload rfl rfl) ?_
      refine XS.go (s_lloadn rfl rfl rfl) ?_
      refine XS.go (s_lloadn rfl rfl rfl) ?_
      by_cases qk10 : b8 < hz h ∧ hk h b8 = 3
      rotate_left
      · rw [if_neg qk10] at hf; cases hf
      rw [if_pos qk10] at hf
      rcases e12 : f_f_restart b8 a0 a1 h with _ | r11
      · rw [e12] at hf; cases hf
      rw [e12] at hf; dsimp only at hf
      refine r_callv rfl xvX3_restart xm2_56 (kf_f_restart (d := d) L0 e12) qk10.1 qk10.2 (by decide) rfl rfl (by omega) (by decide) (Nat.le_of_ble_eq_true rfl) ?_
      rintro _ _ ⟨⟨rfl, rfl⟩, L13⟩
      refine XS.go (s_aloadn rfl rfl rfl) ?_
      refine XS.go (s_dup rfl rfl) ?_
      by_cases qk14 : t < hz r11.2 ∧ hk r11.2 t = 2
      rotate_left
      · rw [if_neg qk14] at hf; cases hf
      rw [if_pos qk14] at hf
      refine XS.go (s_getie rfl xf2_9 qk14.1 qk14.2 (by decide) rfl rfl) ?_
      refine XS.go (s_iconst (v := 1) rfl rfl) ?_
      refine XS.go (s_iadd rfl) ?_
      refine XS.go (s_puti rfl xf2_9 qk14.1 qk14.2 (by decide) rfl (Or.inl rfl)) ?_
      refine XS.go (s_aload rfl rfl) ?_
      cases hf
      exact XR.reta (o := (some b8)) rfl rfl (fun hret => ⟨_, hret, ⟨rfl, rfl⟩, (by simp only [LY_si, LY_sj]; exact L13)⟩)
    · rw [if_neg qc6] at hf
      exact XR.forget (L2 := [none, none, none, none, none, none]) trivial (kb_d_addField_19 L0 hf)
def f_d_addLeaf (t : Nat) (a0 : Int32) (a1 : Int32) (h : XH) : Option (Unit × XH) := (if t < hz h ∧ hk h t = 2 then (if (hi h t 11) < 0 then (some ((), h)) else (match hr h t 9 with | none => none | some b3 => (if b3 < hz h ∧ hk h b3 = 100 then (if (nI (hn h b3)) ≤ (hi h t 11) then (some ((), h)) else (match hr h t 10 with | none => none | some b7 => (if b7 < hz h ∧ hk h b7 = 100 then (if (nI (hn h b7)) ≤ (hi h t 11) then (some ((), h)) else (if 0 ≤ (hi h t 11) ∧ (hi h t 11) < nI (hn h b3) ∧ (hn h b3) < 2 ^ 31 then (if 0 ≤ (hi (hsi h b3 (Int32.toNatClampNeg (hi h t 11)) a0) t 11) ∧ (hi (hsi h b3 (Int32.toNatClampNeg (hi h t 11)) a0) t 11) < nI (hn h b7) ∧ (hn h b7) < 2 ^ 31 then (some ((), (hsi (hsi (hsi h b3 (Int32.toNatClampNeg (hi h t 11)) a0) b7 (Int32.toNatClampNeg (hi (hsi h b3 (Int32.toNatClampNeg (hi h t 11)) a0) t 11)) a1) t 11 ((hi (hsi (hsi h b3 (Int32.toNatClampNeg (hi h t 11)) a0) b7 (Int32.toNatClampNeg (hi (hsi h b3 (Int32.toNatClampNeg (hi h t 11)) a0) t 11)) a1) t 11) + 1)))) else none) else none)) else none))) else none))) else none)
set_option maxRecDepth 20000 in
theorem kf_d_addLeaf {l : Launch} {G : XG} {d : Nat} {t : Nat} {a0 : Int32} {a1 : Int32} {h : XH} {r : Unit × XH} (L0 : LY h) (hf : f_d_addLeaf t a0 a1 h = some r) : XC l G xEX2_addLeaf d [.ref t, .int a0, .int a1] h (fun v h2 => (h2 = r.2 ∧ v = none) ∧ LY r.2) := by
  refine XC.virt xvX2_addLeaf (Nat.le_of_ble_eq_true rfl) ?_
  unfold f_d_addLeaf at hf
  refine XS.go (s_aloadn rfl rfl rfl) ?_
  by_cases qk1 : t < hz h ∧ hk h t = 2
  rotate_left
  · rw [if_neg qk1] at hf; cases hf
  rw [if_pos qk1] at hf
  refine XS.go (s_getie rfl xf2_31 qk1.1 qk1.2 (by decide) rfl rfl) ?_
  refine r_if_lt (tgt := 61) rfl rfl (fun qc2 => ?_) (fun qc2 => ?_)
  · rw [if_pos qc2] at hf
    cases hf
    exact XR.retv rfl rfl (fun hret => ⟨_, hret, ⟨rfl, rfl⟩, L0⟩)
  · rw [if_neg qc2] at hf
    refine XS.go (s_aloadn rfl rfl rfl) ?_
    refine XS.go (s_getie rfl xf2_31 qk1.1 qk1.2 (by decide) rfl rfl) ?_
    refine XS.go (s_aloadn rfl rfl rfl) ?_
    rcases qr4 : hr h t 9 with _ | b3
    · rw [qr4] at hf; cases hf
    rw [qr4] at hf; dsimp only at hf
    refine XS.go (s_getr rfl xf2_47 qk1.1 qk1.2 (by decide) rfl qr4) ?_
    by_cases qk5 : b3 < hz h ∧ hk h b3 = 100
    rotate_left
    · rw [if_neg qk5] at hf; cases hf
    rw [if_pos qk5] at hf
    refine XS.go (s_alene rfl qk5.1 qk5.2 rfl (by decide)) ?_
    refine r_icmp_ge (tgt := 61) rfl rfl (fun qc6 => ?_) (fun qc6 => ?_)
    · rw [if_pos qc6] at hf
      cases hf
      exact XR.retv rfl rfl (fun hret => ⟨_, hret, ⟨rfl, rfl⟩, L0⟩)
    · rw [if_neg qc6] at hf
      refine XS.go (s_aloadn rfl rfl rfl) ?_
      refine XS.go (s_getie rfl xf2_31 qk1.1 qk1.2 (by decide) rfl rfl) ?_
      refine XS.go (s_aloadn rfl rfl rfl) ?_
      rcases qr8 : hr h t 10 with _ | b7
      · rw [qr8] at hf; cases hf
      rw [qr8] at hf; dsimp only at hf
      refine XS.go (s_getr rfl xf2_51 qk1.1 qk1.2 (by decide) rfl qr8) ?_
      by_cases qk9 : b7 < hz h ∧ hk h b7 = 100
      rotate_left
      · rw [if_neg qk9] at hf; cases hf
      rw [if_pos qk9] at hf
      refine XS.go (s_alene rfl qk9.1 qk9.2 rfl (by decide)) ?_
      refine r_icmp_ge (tgt := 61) rfl rfl (fun qc10 => ?_) (fun qc10 => ?_)
      · rw [if_pos qc10] at hf
        cases hf
        exact XR.retv rfl rfl (fun hret => ⟨_, hret, ⟨rfl, rfl⟩, L0⟩)
      · rw [if_neg qc10] at hf
        refine XS.go (s_aloadn rfl rfl rfl) ?_
        refine XS.go (s_getr rfl xf2_47 qk1.1 qk1.2 (by decide) rfl qr4) ?_
        refine XS.go (s_aloadn rfl rfl rfl) ?_
        refine XS.go (s_getie rfl xf2_31 qk1.1 qk1.2 (by decide) rfl rfl) ?_
        refine XS.go (s_iloadn rfl rfl rfl) ?_
        by_cases qk11 : 0 ≤ (hi h t 11) ∧ (hi h t 11) < nI (hn h b3) ∧ (hn h b3) < 2 ^ 31
        rotate_left
        · rw [if_neg qk11] at hf; cases hf
        rw [if_pos qk11] at hf
        refine XS.go (s_iast rfl qk5.1 qk5.2 (inLit (N := hn h b3) rfl qk11.1 qk11.2.1 qk11.2.2)) ?_
        refine XS.go (s_aloadn rfl rfl rfl) ?_
        refine XS.go (s_getr rfl xf2_51 (by simp only [hz_hsi, hk_hsi, hz_hsj, hk_hsj]; exact qk1.1) (by simp only [hz_hsi, hk_hsi, hz_hsj, hk_hsj]; exact qk1.2) (by decide) rfl (by simp only [hr_hsi, hr_hsj]; exact qr8)) ?_
        refine XS.go (s_aloadn rfl rfl rfl) ?_
        refine XS.go (s_getie rfl xf2_31 (by simp only [hz_hsi, hk_hsi, hz_hsj, hk_hsj]; exact qk1.1) (by simp only [hz_hsi, hk_hsi, hz_hsj, hk_hsj]; exact qk1.2) (by decide) rfl rfl) ?_
        refine XS.go (s_iloadn rfl rfl rfl) ?_
        by_cases qk12 : 0 ≤ (hi (hsi h b3 (Int32.toNatClampNeg (hi h t 11)) a0) t 11) ∧ (hi (hsi h b3 (Int32.toNatClampNeg (hi h t 11)) a0) t 11) < nI (hn h b7) ∧ (hn h b7) < 2 ^ 31
        rotate_left
        · rw [if_neg qk12] at hf; cases hf
        rw [if_pos qk12] at hf
        refine XS.go (s_iast rfl (by simp only [hz_hsi, hk_hsi, hz_hsj, hk_hsj]; exact qk9.1) (by simp only [hz_hsi, hk_hsi, hz_hsj, hk_hsj]; exact qk9.2) (inLit (N := hn h b7) (by simp only [hn_hsi, hn_hsj]) qk12.1 qk12.2.1 qk12.2.2)) ?_
        refine XS.go (s_aloadn rfl rfl rfl) ?_
        refine XS.go (s_dup rfl rfl) ?_
        refine XS.go (s_getie rfl xf2_31 (by simp only [hz_hsi, hk_hsi, hz_hsj, hk_hsj]; exact qk1.1) (by simp only [hz_hsi, hk_hsi, hz_hsj, hk_hsj]; exact qk1.2) (by decide) rfl rfl) ?_
        refine XS.go (s_iconst (v := 1) rfl rfl) ?_
        refine XS.go (s_iadd rfl) ?_
        refine XS.go (s_puti rfl xf2_31 (by simp only [hz_hsi, hk_hsi, hz_hsj, hk_hsj]; exact qk1.1) (by simp only [hz_hsi, hk_hsi, hz_hsj, hk_hsj]; exact qk1.2) (by decide) rfl (Or.inl rfl)) ?_
        cases hf
        exact XR.retv rfl rfl (fun hret => ⟨_, hret, ⟨rfl, rfl⟩, (by simp only [LY_si, LY_sj]; exact L0)⟩)
def s_d_addLeavesOf_2 (K2 : Nat → Nat → Int32 → Int32 → XH → Option (Unit × XH)) (x0 : Nat) (x1 : Nat) (x2 : Int32) (x3 : Int32) (h : XH) : Option (Unit × XH) := (if x1 < hz h ∧ hk h x1 = 2 then (if (hi h x1 11) ≤ x3 then (some ((), h)) else (match f_d_leafScalar x1 x3 h with | none => none | some r3 => (if x1 < hz r3.2 ∧ hk r3.2 x1 = 2 then (match f_d_leafPlace x1 x3 r3.2 with | none => none | some r7 => (if x0 < hz r7.2 ∧ hk r7.2 x0 = 2 then (match f_d_addLeaf x0 r3.1 (x2 + r7.1) r7.2 with | none => none | some r11 => (K2 x0 x1 x2 (x3 + 1) r11.2)) else none)) else none))) else none)
set_option maxRecDepth 20000 in
theorem ks_d_addLeavesOf_2 {l : Launch} {G : XG} {d : Nat} {K2 : Nat → Nat → Int32 → Int32 → XH → Option (Unit × XH)} {x0 : Nat} {x1 : Nat} {x2 : Int32} {x3 : Int32} {h : XH} {r : Unit × XH} (hK2 : ∀ (x0 : Nat) (x1 : Nat) (x2 : Int32) (x3 : Int32) (h : XH), LY h → K2 x0 x1 x2 x3 h = some r → XR l G xEX2_addLeavesOf (d + 1) (2, [some (.ref x0), some (.ref x1), some (.int x2), some (.int x3)], [], h) (fun C => ∃ v, xRet xEX2_addLeavesOf C v ∧ (C.2.2.2 = r.2 ∧ v = none) ∧ LY r.2)) (L0 : LY h) (hf : s_d_addLeavesOf_2 K2 x0 x1 x2 x3 h = some r) : XR l G xEX2_addLeavesOf (d + 1) (2, [some (.ref x0), some (.ref x1), some (.int x2), some (.int x3)], [], h) (fun C => ∃ v, xRet xEX2_addLeavesOf C v ∧ (C.2.2.2 = r.2 ∧ v = none) ∧ LY r.2) := by
  unfold s_d_addLeavesOf_2 at hf
  refine XS.go (s_iloadn rfl rfl rfl) ?_
  refine XS.go (s_aloadn rfl rfl rfl) ?_
  by_cases qk1 : x1 < hz h ∧ hk h x1 = 2
  rotate_left
  · rw [if_neg qk1] at hf; cases hf
  rw [if_pos qk1] at hf
  refine XS.go (s_getie rfl xf2_31 qk1.1 qk1.2 (by decide) rfl rfl) ?_
  refine r_icmp_ge (tgt := 32) rfl rfl (fun qc2 => ?_) (fun qc2 => ?_)
  · rw [if_pos qc2] at hf
    cases hf
    exact XR.retv rfl rfl (fun hret => ⟨_, hret, ⟨rfl, rfl⟩, L0⟩)
  · rw [if_neg qc2] at hf
    refine XS.go (s_aloadn rfl rfl rfl) ?_
    refine XS.go (s_aloadn rfl rfl rfl) ?_
    refine XS.go (s_iloadn rfl rfl rfl) ?_
    rcases e4 : f_d_leafScalar x1 x3 h with _ | r3
    · rw [e4] at hf; cases hf
    rw [e4] at hf; dsimp only at hf
    refine r_callv rfl xvX2_leafScalar xm2_60 (kf_d_leafScalar (d := d) L0 e4) qk1.1 qk1.2 (by decide) rfl rfl (by omega) (by decide) (Nat.le_of_ble_eq_true rfl) ?_
    rintro _ _ ⟨⟨rfl, rfl⟩, L5⟩
    refine XS.go (s_iloadn rfl rfl rfl) ?_
    refine XS.go (s_aloadn rfl rfl rfl) ?_
    refine XS.go (s_iloadn rfl rfl rfl) ?_
    by_cases qk6 : x1 < hz r3.2 ∧ hk r3.2 x1 = 2
    rotate_left
    · rw [if_neg qk6] at hf; cases hf
    rw [if_pos qk6] at hf
    rcases e8 : f_d_leafPlace x1 x3 r3.2 with _ | r7
    · rw [e8] at hf; cases hf
    rw [e8] at hf; dsimp only at hf
    refine r_callv rfl xvX2_leafPlace xm2_64 (kf_d_leafPlace (d := d) L5 e8) qk6.1 qk6.2 (by decide) rfl rfl (by omega) (by decide) (Nat.le_of_ble_eq_true rfl) ?_
    rintro _ _ ⟨⟨rfl, rfl⟩, L9⟩
    refine XS.go (s_iadd rfl) ?_
    by_cases qk10 : x0 < hz r7.2 ∧ hk r7.2 x0 = 2
    rotate_left
    · rw [if_neg qk10] at hf; cases hf
    rw [if_pos qk10] at hf
    rcases e12 : f_d_addLeaf x0 r3.1 (x2 + r7.1) r7.2 with _ | r11
    · rw [e12] at hf; cases hf
    rw [e12] at hf; dsimp only at hf
    refine r_callv rfl xvX2_addLeaf xm2_67 (kf_d_addLeaf (d := d) L9 e12) qk10.1 qk10.2 (by decide) rfl rfl (by omega) (by decide) (Nat.le_of_ble_eq_true rfl) ?_
    rintro _ _ ⟨⟨rfl, rfl⟩, L13⟩
    refine XS.go (s_inc rfl rfl (Nat.le_of_ble_eq_true rfl)) ?_
    refine XS.go (s_goto (tgt := 2) rfl rfl) ?_
    exact XR.forget (L2 := [some (.ref x0), some (.ref x1), some (.int x2), some (.int (x3 + 1))]) ⟨rfl, ⟨rfl, ⟨rfl, ⟨rfl, trivial⟩⟩⟩⟩ (hK2 x0 x1 x2 (x3 + 1) _ L13 hf)
def b_d_addLeavesOf_2 : Nat → Nat → Nat → Int32 → Int32 → XH → Option (Unit × XH)
  | 0, _, _, _, _, _ => none
  | n + 1, x0, x1, x2, x3, h => s_d_addLeavesOf_2 (b_d_addLeavesOf_2 n) x0 x1 x2 x3 h
theorem kb_d_addLeavesOf_2 {l : Launch} {G : XG} {d : Nat} {n : Nat} {x0 : Nat} {x1 : Nat} {x2 : Int32} {x3 : Int32} {h : XH} {r : Unit × XH} (L0 : LY h) (hf : b_d_addLeavesOf_2 n x0 x1 x2 x3 h = some r) : XR l G xEX2_addLeavesOf (d + 1) (2, [some (.ref x0), some (.ref x1), some (.int x2), some (.int x3)], [], h) (fun C => ∃ v, xRet xEX2_addLeavesOf C v ∧ (C.2.2.2 = r.2 ∧ v = none) ∧ LY r.2) := by
  induction n generalizing x0 x1 x2 x3 h with
  | zero => cases hf
  | succ n ih => exact ks_d_addLeavesOf_2 (fun x0 x1 x2 x3 h L0 hf => ih (h := h) (x0 := x0) (x1 := x1) (x2 := x2) (x3 := x3) L0 hf) L0 hf
def f_d_addLeavesOf (t : Nat) (a0 : Nat) (a1 : Int32) (h : XH) : Option (Unit × XH) := (b_d_addLeavesOf_2 100000 t a0 a1 0 h)
set_option maxRecDepth 20000 in
theorem kf_d_addLeavesOf {l : Launch} {G : XG} {d : Nat} {t : Nat} {a0 : Nat} {a1 : Int32} {h : XH} {r : Unit × XH} (L0 : LY h) (hf : f_d_addLeavesOf t a0 a1 h = some r) : XC l G xEX2_addLeavesOf (d + 1) [.ref t, .ref a0, .int a1] h (fun v h2 => (h2 = r.2 ∧ v = none) ∧ LY r.2) := by
  refine XC.virt xvX2_addLeavesOf (Nat.le_of_ble_eq_true rfl) ?_
  unfold f_d_addLeavesOf at hf
  refine XS.go (s_iconst (v := 0) rfl rfl) ?_
  refine XS.go (s_istoren rfl rfl (Nat.le_of_ble_eq_true rfl)) ?_
  exact XR.forget (L2 := [some (.ref t), some (.ref a0), some (.int a1), some (.int 0)]) ⟨rfl, ⟨rfl, ⟨rfl, ⟨rfl, trivial⟩⟩⟩⟩ (kb_d_addLeavesOf_2 L0 hf)
