/-! Methods as functions of the heap -/
def s_t_areLeaves_16 (K16 : Nat → Int32 → Int32 → XH → Option (Int32 × XH)) (x1 : Nat) (x2 : Int32) (x3 : Int32) (h : XH) : Option (Int32 × XH) := (if x2 ≤ x3 then (some (1, h)) else (if x1 < hz h ∧ hk h x1 = 2 then (if ¬ (hi h x1 11) = 0 then (match f_d_leafScalar x1 (x3 - x3 / (hi h x1 11) * (hi h x1 11)) h with | none => none | some r4 => (match f_w_at 5 x3 r4.2 with | none => none | some r7 => (match f_t_isValue r4.1 r7.1 r7.2 with | none => none | some r10 => (if ¬ r10.1 = 0 then (K16 x1 x2 (x3 + 1) r10.2) else (some (0, r10.2)))))) else none) else none))
set_option maxRecDepth 20000 in
theorem ks_t_areLeaves_16 {l : Launch} {G : XG} {d : Nat} {K16 : Nat → Int32 → Int32 → XH → Option (Int32 × XH)} {x1 : Nat} {x2 : Int32} {x3 : Int32} {h : XH} {r : Int32 × XH} (hK16 : ∀ (x1 : Nat) (x2 : Int32) (x3 : Int32) (h : XH), LY h → K16 x1 x2 x3 h = some r → XR l G xEX11_areLeaves (d + 2) (16, [some (.ref 0), some (.ref x1), some (.int x2), some (.int x3)], [], h) (fun C => ∃ v, xRet xEX11_areLeaves C v ∧ (C.2.2.2 = r.2 ∧ v = some (.int r.1)) ∧ LY r.2)) (L0 : LY h) (hf : s_t_areLeaves_16 K16 x1 x2 x3 h = some r) : XR l G xEX11_areLeaves (d + 2) (16, [some (.ref 0), some (.ref x1), some (.int x2), some (.int x3)], [], h) (fun C => ∃ v, xRet xEX11_areLeaves C v ∧ (C.2.2.2 = r.2 ∧ v = some (.int r.1)) ∧ LY r.2) := by
  unfold s_t_areLeaves_16 at hf
  refine XS.go (s_iloadn rfl rfl rfl) ?_
  refine XS.go (s_iloadn rfl rfl rfl) ?_
  refine r_icmp_ge (tgt := 53) rfl rfl (fun qc1 => ?_) (fun qc1 => ?_)
  · rw [if_pos qc1] at hf
    refine XS.go (s_iconst (v := 1) rfl rfl) ?_
    cases hf
    exact XR.retz rfl rfl (by decide) (fun hret => ⟨_, hret, ⟨rfl, rfl⟩, L0⟩)
  · rw [if_neg qc1] at hf
    refine XS.go (s_aloadn rfl rfl rfl) ?_
    refine XS.go (s_iloadn rfl rfl rfl) ?_
    refine XS.go (s_aloadn rfl rfl rfl) ?_
    by_cases qk2 : x1 < hz h ∧ hk h x1 = 2
    rotate_left
    · rw [if_neg qk2] at hf; cases hf
    rw [if_pos qk2] at hf
    refine XS.go (s_getie rfl xf11_255 qk2.1 qk2.2 (by decide) rfl rfl) ?_
    by_cases qk3 : ¬ (hi h x1 11) = 0
    rotate_left
    · rw [if_neg qk3] at hf; cases hf
    rw [if_pos qk3] at hf
    refine XS.go (s_irem qk3 rfl) ?_
    rcases e5 : f_d_leafScalar x1 (x3 - x3 / (hi h x1 11) * (hi h x1 11)) h with _ | r4
    · rw [e5] at hf; cases hf
    rw [e5] at hf; dsimp only at hf
    refine r_callv rfl xvX2_leafScalar xm11_272 (kf_d_leafScalar (d := d) L0 e5) qk2.1 qk2.2 (by decide) rfl rfl (by omega) (by decide) (Nat.le_of_ble_eq_true rfl) ?_
    rintro _ _ ⟨⟨rfl, rfl⟩, L6⟩
    refine XS.go (s_aloadn rfl rfl rfl) ?_
    refine XS.go (s_getr rfl xf11_22 (LY.lt L6 (by decide)) (LY.k0 L6) (by decide) rfl (LY.r0_2 L6)) ?_
    refine XS.go (s_iloadn rfl rfl rfl) ?_
    rcases e8 : f_w_at 5 x3 r4.2 with _ | r7
    · rw [e8] at hf; cases hf
    rw [e8] at hf; dsimp only at hf
    refine r_callv rfl xvX10_at xm11_261 (kf_w_at (d := d) L6 e8) (LY.lt L6 (by decide)) (LY.k5 L6) (by decide) rfl rfl (by omega) (by decide) (Nat.le_of_ble_eq_true rfl) ?_
    rintro _ _ ⟨⟨rfl, rfl⟩, L9⟩
    rcases e11 : f_t_isValue r4.1 r7.1 r7.2 with _ | r10
    · rw [e11] at hf; cases hf
    rw [e11] at hf; dsimp only at hf
    refine r_calls rfl xsX11_isValue xm11_264 (kf_t_isValue (d := d) L9 e11) rfl rfl (by omega) (by decide) (Nat.le_of_ble_eq_true rfl) ?_
    rintro _ _ ⟨⟨rfl, rfl⟩, L12⟩
    refine r_if_ne (tgt := 47) rfl rfl (fun qc13 => ?_) (fun qc13 => ?_)
    · rw [if_pos qc13] at hf
      refine XS.go (s_inc rfl rfl (Nat.le_of_ble_eq_true rfl)) ?_
      refine XS.go (s_goto (tgt := 16) rfl rfl) ?_
      exact XR.forget (L2 := [some (.ref 0), some (.ref x1), some (.int x2), some (.int (x3 + 1))]) ⟨rfl, ⟨rfl, ⟨rfl, ⟨rfl, trivial⟩⟩⟩⟩ (hK16 x1 x2 (x3 + 1) _ L12 hf)
    · rw [if_neg qc13] at hf
      refine XS.go (s_iconst (v := 0) rfl rfl) ?_
      cases hf
      exact XR.retz rfl rfl (by decide) (fun hret => ⟨_, hret, ⟨rfl, rfl⟩, L12⟩)
def b_t_areLeaves_16 : Nat → Nat → Int32 → Int32 → XH → Option (Int32 × XH)
  | 0, _, _, _, _ => none
  | n + 1, x1, x2, x3, h => s_t_areLeaves_16 (b_t_areLeaves_16 n) x1 x2 x3 h
theorem kb_t_areLeaves_16 {l : Launch} {G : XG} {d : Nat} {n : Nat} {x1 : Nat} {x2 : Int32} {x3 : Int32} {h : XH} {r : Int32 × XH} (L0 : LY h) (hf : b_t_areLeaves_16 n x1 x2 x3 h = some r) : XR l G xEX11_areLeaves (d + 2) (16, [some (.ref 0), some (.ref x1), some (.int x2), some (.int x3)], [], h) (fun C => ∃ v, xRet xEX11_areLeaves C v ∧ (C.2.2.2 = r.2 ∧ v = some (.int r.1)) ∧ LY r.2) := by
  induction n generalizing x1 x2 x3 h with
  | zero => cases hf
  | succ n ih => exact ks_t_areLeaves_16 (fun x1 x2 x3 h L0 hf => ih (h := h) (x1 := x1) (x2 := x2) (x3 := x3) L0 hf) L0 hf
def f_t_areLeaves (a0 : Nat) (a1 : Int32) (h : XH) : Option (Int32 × XH) := (if a0 < hz h ∧ hk h a0 = 2 then (if 1 ≤ (hi h a0 11) then (b_t_areLeaves_16 100000 a0 a1 0 h) else (some (0, h))) else none)
set_option maxRecDepth 20000 in
theorem kf_t_areLeaves {l : Launch} {G : XG} {d : Nat} {a0 : Nat} {a1 : Int32} {h : XH} {r : Int32 × XH} (L0 : LY h) (hf : f_t_areLeaves a0 a1 h = some r) : XC l G xEX11_areLeaves (d + 2) [.ref 0, .ref a0, .int a1] h (fun v h2 => (h2 = r.2 ∧ v = some (.int r.1)) ∧ LY r.2) := by
  refine XC.virt xvX11_areLeaves (Nat.le_of_ble_eq_true rfl) ?_
  unfold f_t_areLeaves at hf
  refine XS.go (s_aloadn rfl rfl rfl) ?_
  refine XS.go (s_ifnull_r rfl) ?_
  refine XS.go (s_aloadn rfl rfl rfl) ?_
  by_cases qk14 : a0 < hz h ∧ hk h a0 = 2
  rotate_left
  · rw [if_neg qk14] at hf; cases hf
  rw [if_pos qk14] at hf
  refine XS.go (s_getie rfl xf11_255 qk14.1 qk14.2 (by decide) rfl rfl) ?_
  refine XS.go (s_iconst (v := 1) rfl rfl) ?_
  refine r_icmp_ge (tgt := 14) rfl rfl (fun qc15 => ?_) (fun qc15 => ?_)
  · rw [if_pos qc15] at hf
    refine XS.go (s_iconst (v := 0) rfl rfl) ?_
    refine XS.go (s_istoren rfl rfl (Nat.le_of_ble_eq_true rfl)) ?_
    exact XR.forget (L2 := [some (.ref 0), some (.ref a0), some (.int a1), some (.int 0)]) ⟨rfl, ⟨rfl, ⟨rfl, ⟨rfl, trivial⟩⟩⟩⟩ (kb_t_areLeaves_16 L0 hf)
  · rw [if_neg qc15] at hf
    refine XS.go (s_iconst (v := 0) rfl rfl) ?_
    cases hf
    exact XR.retz rfl rfl (by decide) (fun hret => ⟨_, hret, ⟨rfl, rfl⟩, L0⟩)
def b_t_areElements_80 (K37 : Int32 → Int32 → Int32 → Int32 → Int32 → XH → Option (Int32 × XH)) (x1 : Int32) (x2 : Int32) (x3 : Int32) (x4 : Int32) (x5 : Int32) (y0 : Int32) (h : XH) : Option (Int32 × XH) := (if ¬ y0 = 0 then (K37 x1 x2 x3 x4 (x5 + 1) h) else (some (0, h)))
set_option maxRecDepth 20000 in
theorem kb_t_areElements_80 {l : Launch} {G : XG} {d : Nat} {K37 : Int32 → Int32 → Int32 → Int32 → Int32 → XH → Option (Int32 × XH)} {x1 : Int32} {x2 : Int32} {x3 : Int32} {x4 : Int32} {x5 : Int32} {y0 : Int32} {h : XH} {r : Int32 × XH} (hK37 : ∀ (x1 : Int32) (x2 : Int32) (x3 : Int32) (x4 : Int32) (x5 : Int32) (h : XH), LY h → K37 x1 x2 x3 x4 x5 h = some r → XR l G xEX11_areElements (d + 3) (37, [some (.ref 0), some (.int x1), some (.int x2), some (.int x3), some (.int x4), some (.int x5), none, none, none], [], h) (fun C => ∃ v, xRet xEX11_areElements C v ∧ (C.2.2.2 = r.2 ∧ v = some (.int r.1)) ∧ LY r.2)) (L0 : LY h) (hf : b_t_areElements_80 K37 x1 x2 x3 x4 x5 y0 h = some r) : XR l G xEX11_areElements (d + 3) (80, [some (.ref 0), some (.int x1), some (.int x2), some (.int x3), some (.int x4), some (.int x5), none, none, none], [(.int y0)], h) (fun C => ∃ v, xRet xEX11_areElements C v ∧ (C.2.2.2 = r.2 ∧ v = some (.int r.1)) ∧ LY r.2) := by
  unfold b_t_areElements_80 at hf
  refine XS.go (s_istore rfl (Nat.le_of_ble_eq_true rfl)) ?_
  refine XS.go (s_iload rfl rfl) ?_
  refine r_if_ne (tgt := 89) rfl rfl (fun qc1 => ?_) (fun qc1 => ?_)
  · rw [if_pos qc1] at hf
    refine XS.go (s_inc rfl rfl (Nat.le_of_ble_eq_true rfl)) ?_
    refine XS.go (s_goto (tgt := 37) rfl rfl) ?_
    exact XR.forget (L2 := [some (.ref 0), some (.int x1), some (.int x2), some (.int x3), some (.int x4), some (.int (x5 + 1)), none, none, none]) ⟨rfl, ⟨rfl, ⟨rfl, ⟨rfl, ⟨rfl, ⟨rfl, trivial⟩⟩⟩⟩⟩⟩ (hK37 x1 x2 x3 x4 (x5 + 1) _ L0 hf)
  · rw [if_neg qc1] at hf
    refine XS.go (s_iconst (v := 0) rfl rfl) ?_
    cases hf
    exact XR.retz rfl rfl (by decide) (fun hret => ⟨_, hret, ⟨rfl, rfl⟩, L0⟩)
def s_t_areElements_37 (K37 : Int32 → Int32 → Int32 → Int32 → Int32 → XH → Option (Int32 × XH)) (x1 : Int32) (x2 : Int32) (x3 : Int32) (x4 : Int32) (x5 : Int32) (h : XH) : Option (Int32 × XH) := (if x3 ≤ x5 then (some (1, h)) else (match f_w_at 5 x5 h with | none => none | some r3 => (if ¬ x1 = 0 then (match f_u_isThing r3.1 x1 x4 (-1) r3.2 with | none => none | some r7 => (b_t_areElements_80 K37 x1 x2 x3 x4 x5 r7.1 r7.2)) else (match f_t_isValue x2 r3.1 r3.2 with | none => none | some r10 => (b_t_areElements_80 K37 x1 x2 x3 x4 x5 r10.1 r10.2)))))
set_option maxRecDepth 20000 in
theorem ks_t_areElements_37 {l : Launch} {G : XG} {d : Nat} {K37 : Int32 → Int32 → Int32 → Int32 → Int32 → XH → Option (Int32 × XH)} {x1 : Int32} {x2 : Int32} {x3 : Int32} {x4 : Int32} {x5 : Int32} {h : XH} {r : Int32 × XH} (hK37 : ∀ (x1 : Int32) (x2 : Int32) (x3 : Int32) (x4 : Int32) (x5 : Int32) (h : XH), LY h → K37 x1 x2 x3 x4 x5 h = some r → XR l G xEX11_areElements (d + 3) (37, [some (.ref 0), some (.int x1), some (.int x2), some (.int x3), some (.int x4), some (.int x5), none, none, none], [], h) (fun C => ∃ v, xRet xEX11_areElements C v ∧ (C.2.2.2 = r.2 ∧ v = some (.int r.1)) ∧ LY r.2)) (L0 : LY h) (hf : s_t_areElements_37 K37 x1 x2 x3 x4 x5 h = some r) : XR l G xEX11_areElements (d + 3) (37, [some (.ref 0), some (.int x1), some (.int x2), some (.int x3), some (.int x4), some (.int x5), none, none, none], [], h) (fun C => ∃ v, xRet xEX11_areElements C v ∧ (C.2.2.2 = r.2 ∧ v = some (.int r.1)) ∧ LY r.2) := by
  unfold s_t_areElements_37 at hf
  refine XS.go (s_iload rfl rfl) ?_
  refine XS.go (s_iloadn rfl rfl rfl) ?_
  refine r_icmp_ge (tgt := 95) rfl rfl (fun qc2 => ?_) (fun qc2 => ?_)
  · rw [if_pos qc2] at hf
    refine XS.go (s_iconst (v := 1) rfl rfl) ?_
    cases hf
    exact XR.retz rfl rfl (by decide) (fun hret => ⟨_, hret, ⟨rfl, rfl⟩, L0⟩)
  · rw [if_neg qc2] at hf
    refine XS.go (s_aloadn rfl rfl rfl) ?_
    refine XS.go (s_getr rfl xf11_22 (LY.lt L0 (by decide)) (LY.k0 L0) (by decide) rfl (LY.r0_2 L0)) ?_
    refine XS.go (s_iload rfl rfl) ?_
    rcases e4 : f_w_at 5 x5 h with _ | r3
    · rw [e4] at hf; cases hf
    rw [e4] at hf; dsimp only at hf
    refine r_callv rfl xvX10_at xm11_261 (kf_w_at (d := d) L0 e4) (LY.lt L0 (by decide)) (LY.k5 L0) (by decide) rfl rfl (by omega) (by decide) (Nat.le_of_ble_eq_true rfl) ?_
    rintro _ _ ⟨⟨rfl, rfl⟩, L5⟩
    refine XS.go (s_lstore rfl (Nat.le_of_ble_eq_true rfl)) ?_
    refine XS.go (s_iloadn rfl rfl rfl) ?_
    refine r_if_ne (tgt := 67) rfl rfl (fun qc6 => ?_) (fun qc6 => ?_)
    · rw [if_pos qc6] at hf
      refine XS.go (s_aloadn rfl rfl rfl) ?_
      refine XS.go (s_getr rfl xf11_46 (LY.lt L5 (by decide)) (LY.k0 L5) (by decide) rfl (LY.r0_6 L5)) ?_
      refine XS.go (s_lload rfl rfl) ?_
      refine XS.go (s_iloadn rfl rfl rfl) ?_
      refine XS.go (s_iload rfl rfl) ?_
      refine XS.go (s_iconst (v := (-1)) rfl rfl) ?_
      rcases e8 : f_u_isThing r3.1 x1 x4 (-1) r3.2 with _ | r7
      · rw [e8] at hf; cases hf
      rw [e8] at hf; dsimp only at hf
      refine r_callv rfl xvX0_isThing xm11_268 (kf_u_isThing (d := d) L5 e8) (LY.lt L5 (by decide)) (LY.k1244 L5) (by decide) rfl rfl (by omega) (by decide) (Nat.le_of_ble_eq_true rfl) ?_
      rintro _ _ ⟨⟨rfl, rfl⟩, L9⟩
      exact XR.forget (L2 := [some (.ref 0), some (.int x1), some (.int x2), some (.int x3), some (.int x4), some (.int x5), none, none, none]) ⟨rfl, ⟨rfl, ⟨rfl, ⟨rfl, ⟨rfl, ⟨rfl, trivial⟩⟩⟩⟩⟩⟩ (kb_t_areElements_80 hK37 L9 hf)
    · rw [if_neg qc6] at hf
      refine XS.go (s_iloadn rfl rfl rfl) ?_
      refine XS.go (s_lload rfl rfl) ?_
      rcases e11 : f_t_isValue x2 r3.1 r3.2 with _ | r10
      · rw [e11] at hf; cases hf
      rw [e11] at hf; dsimp only at hf
      refine r_calls rfl xsX11_isValue xm11_264 (kf_t_isValue (d := d) L5 e11) rfl rfl (by omega) (by decide) (Nat.le_of_ble_eq_true rfl) ?_
      rintro _ _ ⟨⟨rfl, rfl⟩, L12⟩
      refine XS.go (s_goto (tgt := 80) rfl rfl) ?_
      exact XR.forget (L2 := [some (.ref 0), some (.int x1), some (.int x2), some (.int x3), some (.int x4), some (.int x5), none, none, none]) ⟨rfl, ⟨rfl, ⟨rfl, ⟨rfl, ⟨rfl, ⟨rfl, trivial⟩⟩⟩⟩⟩⟩ (kb_t_areElements_80 hK37 L12 hf)
def b_t_areElements_37 : Nat → Int32 → Int32 → Int32 → Int32 → Int32 → XH → Option (Int32 × XH)
  | 0, _, _, _, _, _, _ => none
  | n + 1, x1, x2, x3, x4, x5, h => s_t_areElements_37 (b_t_areElements_37 n) x1 x2 x3 x4 x5 h
theorem kb_t_areElements_37 {l : Launch} {G : XG} {d : Nat} {n : Nat} {x1 : Int32} {x2 : Int32} {x3 : Int32} {x4 : Int32} {x5 : Int32} {h : XH} {r : Int32 × XH} (L0 : LY h) (hf : b_t_areElements_37 n x1 x2 x3 x4 x5 h = some r) : XR l G xEX11_areElements (d + 3) (37, [some (.ref 0), some (.int x1), some (.int x2), some (.int x3), some (.int x4), some (.int x5), none, none, none], [], h) (fun C => ∃ v, xRet xEX11_areElements C v ∧ (C.2.2.2 = r.2 ∧ v = some (.int r.1)) ∧ LY r.2) := by
  induction n generalizing x1 x2 x3 x4 x5 h with
  | zero => cases hf
  | succ n ih => exact ks_t_areElements_37 (fun x1 x2 x3 x4 x5 h L0 hf => ih (h := h) (x1 := x1) (x2 := x2) (x3 := x3) (x4 := x4) (x5 := x5) L0 hf) L0 hf
def b_t_areElements_32 (x1 : Int32) (x2 : Int32) (x3 : Int32) (y0 : Int32) (h : XH) : Option (Int32 × XH) := (b_t_areElements_37 100000 x1 x2 x3 y0 0 h)
set_option maxRecDepth 20000 in
theorem kb_t_areElements_32 {l : Launch} {G : XG} {d : Nat} {x1 : Int32} {x2 : Int32} {x3 : Int32} {y0 : Int32} {h : XH} {r : Int32 × XH} (L0 : LY h) (hf : b_t_areElements_32 x1 x2 x3 y0 h = some r) : XR l G xEX11_areElements (d + 3) (32, [some (.ref 0), some (.int x1), some (.int x2), some (.int x3), none, none, none, none, none], [(.int y0)], h) (fun C => ∃ v, xRet xEX11_areElements C v ∧ (C.2.2.2 = r.2 ∧ v = some (.int r.1)) ∧ LY r.2) := by
  unfold b_t_areElements_32 at hf
  refine XS.go (s_istore rfl (Nat.le_of_ble_eq_true rfl)) ?_
  refine XS.go (s_iconst (v := 0) rfl rfl) ?_
  refine XS.go (s_istore rfl (Nat.le_of_ble_eq_true rfl)) ?_
  exact XR.forget (L2 := [some (.ref 0), some (.int x1), some (.int x2), some (.int x3), some (.int y0), some (.int 0), none, none, none]) ⟨rfl, ⟨rfl, ⟨rfl, ⟨rfl, ⟨rfl, ⟨rfl, trivial⟩⟩⟩⟩⟩⟩ (kb_t_areElements_37 L0 hf)
def f_t_areElements (a0 : Int32) (a1 : Int32) (a2 : Int32) (h : XH) : Option (Int32 × XH) := (if ¬ a0 = 2 then (if ¬ a0 = 1 then (b_t_areElements_32 a0 a1 a2 a1 h) else (b_t_areElements_32 a0 a1 a2 0 h)) else (match hr h 0 4 with | none => none | some b15 => (if b15 < hz h ∧ hk h b15 = 9 then (match hr h b15 0 with | none => none | some b18 => (if b18 < hz h ∧ hk h b18 = 4 then (match f_g_at b18 a1 h with | none => none | some r21 => (match r21.1 with | none => none | some b24 => (match f_t_areLeaves b24 a2 r21.2 with | none => none | some r26 => (if r26.1 = 0 ∨ r26.1 = 1 then (some (r26.1, r26.2)) else none)))) else none)) else none)))
set_option maxRecDepth 20000 in
theorem kf_t_areElements {l : Launch} {G : XG} {d : Nat} {a0 : Int32} {a1 : Int32} {a2 : Int32} {h : XH} {r : Int32 × XH} (L0 : LY h) (hf : f_t_areElements a0 a1 a2 h = some r) : XC l G xEX11_areElements (d + 3) [.ref 0, .int a0, .int a1, .int a2] h (fun v h2 => (h2 = r.2 ∧ v = some (.int r.1)) ∧ LY r.2) := by
  refine XC.virt xvX11_areElements (Nat.le_of_ble_eq_true rfl) ?_
  unfold f_t_areElements at hf
  refine XS.go (s_iloadn rfl rfl rfl) ?_
  refine XS.go (s_iconst (v := 2) rfl rfl) ?_
  refine r_icmp_ne (tgt := 22) rfl rfl (fun qc13 => ?_) (fun qc13 => ?_)
  · rw [if_pos qc13] at hf
    refine XS.go (s_iloadn rfl rfl rfl) ?_
    refine XS.go (s_iconst (v := 1) rfl rfl) ?_
    refine r_icmp_ne (tgt := 31) rfl rfl (fun qc14 => ?_) (fun qc14 => ?_)
    · rw [if_pos qc14] at hf
      refine XS.go (s_iloadn rfl rfl rfl) ?_
      exact XR.forget (L2 := [some (.ref 0), some (.int a0), some (.int a1), some (.int a2), none, none, none, none, none]) ⟨rfl, ⟨rfl, ⟨rfl, ⟨rfl, trivial⟩⟩⟩⟩ (kb_t_areElements_32 L0 hf)
    · rw [if_neg qc14] at hf
      refine XS.go (s_iconst (v := 0) rfl rfl) ?_
      refine XS.go (s_goto (tgt := 32) rfl rfl) ?_
      exact XR.forget (L2 := [some (.ref 0), some (.int a0), some (.int a1), some (.int a2), none, none, none, none, none]) ⟨rfl, ⟨rfl, ⟨rfl, ⟨rfl, trivial⟩⟩⟩⟩ (kb_t_areElements_32 L0 hf)
  · rw [if_neg qc13] at hf
    refine XS.go (s_aloadn rfl rfl rfl) ?_
    refine XS.go (s_aloadn rfl rfl rfl) ?_
    rcases qr16 : hr h 0 4 with _ | b15
    · rw [qr16] at hf; cases hf
    rw [qr16] at hf; dsimp only at hf
    refine XS.go (s_getr rfl xf11_36 (LY.lt L0 (by decide)) (LY.k0 L0) (by decide) rfl qr16) ?_
    by_cases qk17 : b15 < hz h ∧ hk h b15 = 9
    rotate_left
    · rw [if_neg qk17] at hf; cases hf
    rw [if_pos qk17] at hf
    rcases qr19 : hr h b15 0 with _ | b18
    · rw [qr19] at hf; cases hf
    rw [qr19] at hf; dsimp only at hf
    refine XS.go (s_getr rfl xf11_125 qk17.1 qk17.2 (by decide) rfl qr19) ?_
    refine XS.go (s_iloadn rfl rfl rfl) ?_
    by_cases qk20 : b18 < hz h ∧ hk h b18 = 4
    rotate_left
    · rw [if_neg qk20] at hf; cases hf
    rw [if_pos qk20] at hf
    rcases e22 : f_g_at b18 a1 h with _ | r21
    · rw [e22] at hf; cases hf
    rw [e22] at hf; dsimp only at hf
    refine r_callv rfl xvX4_at xm11_134 (kf_g_at (d := d) L0 e22) qk20.1 qk20.2 (by decide) rfl rfl (by omega) (by decide) (Nat.le_of_ble_eq_true rfl) ?_
    rintro _ _ ⟨⟨rfl, rfl⟩, L23⟩
    refine XS.go (s_iloadn rfl rfl rfl) ?_
    rcases qo25 : r21.1 with _ | b24
    · rw [qo25] at hf; cases hf
    rw [qo25] at hf; dsimp only at hf; try rw [qo25]
    rcases e27 : f_t_areLeaves b24 a2 r21.2 with _ | r26
    · rw [e27] at hf; cases hf
    rw [e27] at hf; dsimp only at hf
    refine r_callv rfl xvX11_areLeaves xm11_257 (kf_t_areLeaves (d := d) L23 e27) (LY.lt L23 (by decide)) (LY.k0 L23) (by decide) rfl rfl (by omega) (by decide) (Nat.le_of_ble_eq_true rfl) ?_
    rintro _ _ ⟨⟨rfl, rfl⟩, L28⟩
    by_cases qk29 : r26.1 = 0 ∨ r26.1 = 1
    rotate_left
    · rw [if_neg qk29] at hf; cases hf
    rw [if_pos qk29] at hf
    cases hf
    exact XR.retz rfl rfl qk29 (fun hret => ⟨_, hret, ⟨rfl, rfl⟩, L28⟩)
def f_t_leafCount (a0 : Nat) (h : XH) : Option (Int32 × XH) := (if a0 < hz h ∧ hk h a0 = 2 then (some ((hi h a0 11), h)) else none)
set_option maxRecDepth 20000 in
theorem kf_t_leafCount {l : Launch} {G : XG} {d : Nat} {a0 : Nat} {h : XH} {r : Int32 × XH} (L0 : LY h) (hf : f_t_leafCount a0 h = some r) : XC l G xEX11_leafCount d [.ref a0] h (fun v h2 => (h2 = r.2 ∧ v = some (.int r.1)) ∧ LY r.2) := by
  refine XC.stat xsX11_leafCount (Nat.le_of_ble_eq_true rfl) ?_
  unfold f_t_leafCount at hf
  refine XS.go (s_aloadn rfl rfl rfl) ?_
  refine XS.go (s_ifnonnull_r (tgt := 8) rfl rfl) ?_
  refine XS.go (s_aloadn rfl rfl rfl) ?_
  by_cases qk1 : a0 < hz h ∧ hk h a0 = 2
  rotate_left
  · rw [if_neg qk1] at hf; cases hf
  rw [if_pos qk1] at hf
  refine XS.go (s_getie rfl xf11_255 qk1.1 qk1.2 (by decide) rfl rfl) ?_
  cases hf
  exact XR.reti rfl rfl (fun hret => ⟨_, hret, ⟨rfl, rfl⟩, L0⟩)
def f_t_valuesOfElement (a0 : Int32) (a1 : Int32) (h : XH) : Option (Int32 × XH) := (if a0 = 0 then (match f_t_isScalar a1 h with | none => none | some r2 => (if r2.1 = 0 then (some (0, r2.2)) else (some (1, r2.2)))) else (if a0 = 1 then (some (1, h)) else (if a0 = 2 then (match hr h 0 4 with | none => none | some b6 => (if b6 < hz h ∧ hk h b6 = 9 then (match hr h b6 0 with | none => none | some b9 => (if b9 < hz h ∧ hk h b9 = 4 then (match f_g_at b9 a1 h with | none => none | some r12 => (match r12.1 with | none => none | some b15 => (match f_t_leafCount b15 r12.2 with | none => none | some r17 => (some (r17.1, r17.2))))) else none)) else none)) else (if a0 = 3 then (match hr h 0 4 with | none => none | some b20 => (if b20 < hz h ∧ hk h b20 = 9 then (match hr h b20 1 with | none => none | some b23 => (if b23 < hz h ∧ hk h b23 = 4 then (match f_g_at b23 a1 h with | none => none | some r26 => (match r26.1 with | none => (some (0, r26.2)) | some b30 => (some (1, r26.2)))) else none)) else none)) else (some (0, h))))))
set_option maxRecDepth 20000 in
theorem kf_t_valuesOfElement {l : Launch} {G : XG} {d : Nat} {a0 : Int32} {a1 : Int32} {h : XH} {r : Int32 × XH} (L0 : LY h) (hf : f_t_valuesOfElement a0 a1 h = some r) : XC l G xEX11_valuesOfElement (d + 1) [.ref 0, .int a0, .int a1] h (fun v h2 => (h2 = r.2 ∧ v = some (.int r.1)) ∧ LY r.2) := by
  refine XC.virt xvX11_valuesOfElement (Nat.le_of_ble_eq_true rfl) ?_
  unfold f_t_valuesOfElement at hf
  refine XS.go (s_iloadn rfl rfl rfl) ?_
  by_cases qs1_0 : a0 = 0
  · rw [if_pos qs1_0] at hf
    refine XS.go (s_tswI (tgt := 32) rfl (by rw [qs1_0]; decide) (by rw [qs1_0]; decide) (by rw [qs1_0]; rfl) rfl) ?_
    refine XS.go (s_iloadn rfl rfl rfl) ?_
    rcases e3 : f_t_isScalar a1 h with _ | r2
    · rw [e3] at hf; cases hf
    rw [e3] at hf; dsimp only at hf
    refine r_calls rfl xsX11_isScalar xm11_249 (kf_t_isScalar (d := d) L0 e3) rfl rfl (by omega) (by decide) (Nat.le_of_ble_eq_true rfl) ?_
    rintro _ _ ⟨⟨rfl, rfl⟩, L4⟩
    refine r_if_eq (tgt := 43) rfl rfl (fun qc5 => ?_) (fun qc5 => ?_)
    · rw [if_pos qc5] at hf
      refine XS.go (s_iconst (v := 0) rfl rfl) ?_
      cases hf
      exact XR.reti rfl rfl (fun hret => ⟨_, hret, ⟨rfl, rfl⟩, L4⟩)
    · rw [if_neg qc5] at hf
      refine XS.go (s_iconst (v := 1) rfl rfl) ?_
      refine XS.go (s_goto (tgt := 44) rfl rfl) ?_
      cases hf
      exact XR.reti rfl rfl (fun hret => ⟨_, hret, ⟨rfl, rfl⟩, L4⟩)
  rw [if_neg qs1_0] at hf
  by_cases qs1_1 : a0 = 1
  · rw [if_pos qs1_1] at hf
    refine XS.go (s_tswI (tgt := 45) rfl (by rw [qs1_1]; decide) (by rw [qs1_1]; decide) (by rw [qs1_1]; rfl) rfl) ?_
    refine XS.go (s_iconst (v := 1) rfl rfl) ?_
    cases hf
    exact XR.reti rfl rfl (fun hret => ⟨_, hret, ⟨rfl, rfl⟩, L0⟩)
  rw [if_neg qs1_1] at hf
  by_cases qs1_2 : a0 = 2
  · rw [if_pos qs1_2] at hf
    refine XS.go (s_tswI (tgt := 47) rfl (by rw [qs1_2]; decide) (by rw [qs1_2]; decide) (by rw [qs1_2]; rfl) rfl) ?_
    refine XS.go (s_aloadn rfl rfl rfl) ?_
    rcases qr7 : hr h 0 4 with _ | b6
    · rw [qr7] at hf; cases hf
    rw [qr7] at hf; dsimp only at hf
    refine XS.go (s_getr rfl xf11_36 (LY.lt L0 (by decide)) (LY.k0 L0) (by decide) rfl qr7) ?_
    by_cases qk8 : b6 < hz h ∧ hk h b6 = 9
    rotate_left
    · rw [if_neg qk8] at hf; cases hf
    rw [if_pos qk8] at hf
    rcases qr10 : hr h b6 0 with _ | b9
    · rw [qr10] at hf; cases hf
    rw [qr10] at hf; dsimp only at hf
    refine XS.go (s_getr rfl xf11_125 qk8.1 qk8.2 (by decide) rfl qr10) ?_
    refine XS.go (s_iloadn rfl rfl rfl) ?_
    by_cases qk11 : b9 < hz h ∧ hk h b9 = 4
    rotate_left
    · rw [if_neg qk11] at hf; cases hf
    rw [if_pos qk11] at hf
    rcases e13 : f_g_at b9 a1 h with _ | r12
    · rw [e13] at hf; cases hf
    rw [e13] at hf; dsimp only at hf
    refine r_callv rfl xvX4_at xm11_134 (kf_g_at (d := d) L0 e13) qk11.1 qk11.2 (by decide) rfl rfl (by omega) (by decide) (Nat.le_of_ble_eq_true rfl) ?_
    rintro _ _ ⟨⟨rfl, rfl⟩, L14⟩
    rcases qo16 : r12.1 with _ | b15
    · rw [qo16] at hf; cases hf
    rw [qo16] at hf; dsimp only at hf; try rw [qo16]
    rcases e18 : f_t_leafCount b15 r12.2 with _ | r17
    · rw [e18] at hf; cases hf
    rw [e18] at hf; dsimp only at hf
    refine r_calls rfl xsX11_leafCount xm11_252 (kf_t_leafCount (d := d) L14 e18) rfl rfl (by omega) (by decide) (Nat.le_of_ble_eq_true rfl) ?_
    rintro _ _ ⟨⟨rfl, rfl⟩, L19⟩
    cases hf
    exact XR.reti rfl rfl (fun hret => ⟨_, hret, ⟨rfl, rfl⟩, L19⟩)
  rw [if_neg qs1_2] at hf
  by_cases qs1_3 : a0 = 3
  · rw [if_pos qs1_3] at hf
    refine XS.go (s_tswI (tgt := 62) rfl (by rw [qs1_3]; decide) (by rw [qs1_3]; decide) (by rw [qs1_3]; rfl) rfl) ?_
    refine XS.go (s_aloadn rfl rfl rfl) ?_
    rcases qr21 : hr h 0 4 with _ | b20
    · rw [qr21] at hf; cases hf
    rw [qr21] at hf; dsimp only at hf
    refine XS.go (s_getr rfl xf11_36 (LY.lt L0 (by decide)) (LY.k0 L0) (by decide) rfl qr21) ?_
    by_cases qk22 : b20 < hz h ∧ hk h b20 = 9
    rotate_left
    · rw [if_neg qk22] at hf; cases hf
    rw [if_pos qk22] at hf
    rcases qr24 : hr h b20 1 with _ | b23
    · rw [qr24] at hf; cases hf
    rw [qr24] at hf; dsimp only at hf
    refine XS.go (s_getr rfl xf11_116 qk22.1 qk22.2 (by decide) rfl qr24) ?_
    refine XS.go (s_iloadn rfl rfl rfl) ?_
    by_cases qk25 : b23 < hz h ∧ hk h b23 = 4
    rotate_left
    · rw [if_neg qk25] at hf; cases hf
    rw [if_pos qk25] at hf
    rcases e27 : f_g_at b23 a1 h with _ | r26
    · rw [e27] at hf; cases hf
    rw [e27] at hf; dsimp only at hf
    refine r_callv rfl xvX4_at xm11_134 (kf_g_at (d := d) L0 e27) qk25.1 qk25.2 (by decide) rfl rfl (by omega) (by decide) (Nat.le_of_ble_eq_true rfl) ?_
    rintro _ _ ⟨⟨rfl, rfl⟩, L28⟩
    refine r_ifnonnull (tgt := 80) rfl rfl (fun qn29 => ?_) (fun b30 qn29 => ?_)
    · rw [qn29] at hf; dsimp only at hf; try rw [qn29]
      refine XS.go (s_iconst (v := 0) rfl rfl) ?_
      refine XS.go (s_goto (tgt := 81) rfl rfl) ?_
      cases hf
      exact XR.reti rfl rfl (fun hret => ⟨_, hret, ⟨rfl, rfl⟩, L28⟩)
    · rw [qn29] at hf; dsimp only at hf; try rw [qn29]
      refine XS.go (s_iconst (v := 1) rfl rfl) ?_
      cases hf
      exact XR.reti rfl rfl (fun hret => ⟨_, hret, ⟨rfl, rfl⟩, L28⟩)
  rw [if_neg qs1_3] at hf
  have qs1_o : (a0).toInt < 0 ∨ 3 < (a0).toInt := by
    refine tsw_out 0 3 (by decide) ?_
    intro k h1 h2
    have z : k = 0 ∨ k = 1 ∨ k = 2 ∨ k = 3 := by omega
    rcases z with rfl | rfl | rfl | rfl
    · exact qs1_0
    · exact qs1_1
    · exact qs1_2
    · exact qs1_3
  refine XS.go (s_tswO (tgt := 82) rfl qs1_o rfl) ?_
  refine XS.go (s_iconst (v := 0) rfl rfl) ?_
  cases hf
  exact XR.reti rfl rfl (fun hret => ⟨_, hret, ⟨rfl, rfl⟩, L0⟩)
def b_t_vector_79 (x1 : Int32) (x3 : Int32) (x4 : Int32) (y0 : Int32) (h : XH) : Option (Sum Int32 Nat × XH) := (match hr h 0 4 with | none => none | some b1 => (if ¬ x4 = 0 then (match f_u_addVector b1 x1 y0 5 (x3 / x4) h with | none => none | some r4 => (if ¬ r4.1 = (-1) then (some (Sum.inl r4.1, r4.2)) else (if hz r4.2 < 1000000 then (some (Sum.inr 2, hthr r4.2)) else none))) else none))
set_option maxRecDepth 20000 in
theorem kb_t_vector_79 {l : Launch} {G : XG} {d : Nat} {x1 : Int32} {x3 : Int32} {x4 : Int32} {y0 : Int32} {h : XH} {r : Sum Int32 Nat × XH} (L0 : LY h) (hf : b_t_vector_79 x1 x3 x4 y0 h = some r) : XR l G xEX11_vector (d + 6) (79, [some (.ref 0), some (.int x1), none, some (.int x3), some (.int x4), none, none], [(.int y0)], h) (fun C => (∃ v, xRet xEX11_vector C v ∧ (C.2.2.2 = r.2 ∧ ∃ x, r.1 = Sum.inl x ∧ v = some (.int x)) ∧ LY r.2) ∨ ∃ k E, r.1 = Sum.inr k ∧ xXs[k]? = some E ∧ XThrown xEX11_vector C E ∧ hthr C.2.2.2 = r.2 ∧ LY r.2) := by
  unfold b_t_vector_79 at hf
  refine XS.go (s_istore rfl (Nat.le_of_ble_eq_true rfl)) ?_
  refine XS.go (s_aloadn rfl rfl rfl) ?_
  refine XS.go (s_getr rfl xf11_46 (LY.lt L0 (by decide)) (LY.k0 L0) (by decide) rfl (LY.r0_6 L0)) ?_
  refine XS.go (s_aloadn rfl rfl rfl) ?_
  rcases qr2 : hr h 0 4 with _ | b1
  · rw [qr2] at hf; cases hf
  rw [qr2] at hf; dsimp only at hf
  refine XS.go (s_getr rfl xf11_36 (LY.lt L0 (by decide)) (LY.k0 L0) (by decide) rfl qr2) ?_
  refine XS.go (s_iloadn rfl rfl rfl) ?_
  refine XS.go (s_iload rfl rfl) ?_
  refine XS.go (s_aloadn rfl rfl rfl) ?_
  refine XS.go (s_getr rfl xf11_22 (LY.lt L0 (by decide)) (LY.k0 L0) (by decide) rfl (LY.r0_2 L0)) ?_
  refine XS.go (s_iloadn rfl rfl rfl) ?_
  refine XS.go (s_iload rfl rfl) ?_
  by_cases qk3 : ¬ x4 = 0
  rotate_left
  · rw [if_neg qk3] at hf; cases hf
  rw [if_pos qk3] at hf
  refine XS.go (s_idiv qk3 rfl) ?_
  rcases e5 : f_u_addVector b1 x1 y0 5 (x3 / x4) h with _ | r4
  · rw [e5] at hf; cases hf
  rw [e5] at hf; dsimp only at hf
  refine r_callv rfl xvX0_addVector xm11_243 (kf_u_addVector (d := d) L0 e5) (LY.lt L0 (by decide)) (LY.k1244 L0) (by decide) rfl rfl (by omega) (by decide) (Nat.le_of_ble_eq_true rfl) ?_
  rintro _ _ ⟨⟨rfl, rfl⟩, L6⟩
  refine XS.go (s_istore rfl (Nat.le_of_ble_eq_true rfl)) ?_
  refine XS.go (s_iload rfl rfl) ?_
  refine XS.go (s_iconst (v := (-1)) rfl rfl) ?_
  refine r_icmp_ne (tgt := 121) rfl rfl (fun qc7 => ?_) (fun qc7 => ?_)
  · rw [if_pos qc7] at hf
    refine XS.go (s_iload rfl rfl) ?_
    cases hf
    exact XR.reti rfl rfl (fun hret => Or.inl ⟨_, hret, ⟨rfl, ⟨_, rfl, rfl⟩⟩, L6⟩)
  · rw [if_neg qc7] at hf
    by_cases qk8 : hz r4.2 < 1000000
    rotate_left
    · rw [if_neg qk8] at hf; cases hf
    rw [if_pos qk8] at hf
    cases hf
    exact XR.here (Or.inr ⟨2, _, rfl, rfl, ⟨225, 247, 229, 22, _, rfl, xthr2, ⟨⟨rfl, rfl, rfl⟩, Or.inl ⟨rfl, rfl, rfl⟩⟩, qk8⟩, rfl, LY.new L6 qk8⟩)
def b_t_vector_59 (h : XH) : Option (Sum Int32 Nat × XH) := (if hz h < 1000000 then (some (Sum.inr 0, hthr h)) else none)
set_option maxRecDepth 20000 in
theorem kb_t_vector_59 {l : Launch} {G : XG} {d : Nat} {h : XH} {r : Sum Int32 Nat × XH} (L0 : LY h) (hf : b_t_vector_59 h = some r) : XR l G xEX11_vector (d + 6) (59, [none, none, none, none, none, none, none], [], h) (fun C => (∃ v, xRet xEX11_vector C v ∧ (C.2.2.2 = r.2 ∧ ∃ x, r.1 = Sum.inl x ∧ v = some (.int x)) ∧ LY r.2) ∨ ∃ k E, r.1 = Sum.inr k ∧ xXs[k]? = some E ∧ XThrown xEX11_vector C E ∧ hthr C.2.2.2 = r.2 ∧ LY r.2) := by
  unfold b_t_vector_59 at hf
  by_cases qk9 : hz h < 1000000
  rotate_left
  · rw [if_neg qk9] at hf; cases hf
  rw [if_pos qk9] at hf
  cases hf
  exact XR.here (Or.inr ⟨0, _, rfl, rfl, ⟨103, 241, 107, 21, _, rfl, xthr0, ⟨⟨rfl, rfl, rfl⟩, Or.inl ⟨rfl, rfl, rfl⟩⟩, qk9⟩, rfl, LY.new L0 qk9⟩)
def f_t_vector (a0 : Int32) (a1 : Int32) (h : XH) : Option (Sum Int32 Nat × XH) := (match f_w_takeAll 5 h with | none => none | some r10 => (match f_u_isOpen r10.2 with | none => none | some r13 => (if r13.1 = 0 then (match f_t_valuesOfElement a0 a1 r13.2 with | none => none | some r17 => (if r17.1 < 1 then (b_t_vector_59 r17.2) else (if ¬ r17.1 = 0 then (if ¬ (r10.1 - r10.1 / r17.1 * r17.1) = 0 then (b_t_vector_59 r17.2) else (match f_t_areElements a0 a1 r10.1 r17.2 with | none => none | some r23 => (if ¬ r23.1 = 0 then (if ¬ a0 = 1 then (b_t_vector_79 a0 r10.1 r17.1 a1 r23.2) else (b_t_vector_79 a0 r10.1 r17.1 0 r23.2)) else (b_t_vector_59 r23.2)))) else none))) else (if hz r13.2 < 1000000 then (some (Sum.inr 1, hthr r13.2)) else none))))
set_option maxRecDepth 20000 in
theorem kf_t_vector {l : Launch} {G : XG} {d : Nat} {a0 : Int32} {a1 : Int32} {h : XH} {r : Sum Int32 Nat × XH} (hl : l.stackTraces = false) (L0 : LY h) (hf : f_t_vector a0 a1 h = some r) : (∃ x, r.1 = Sum.inl x ∧ XC l G xEX11_vector (d + 6) [.ref 0, .int a0, .int a1] h (fun v h2 => (h2 = r.2 ∧ v = some (.int x)) ∧ LY r.2)) ∨ ∃ k E, r.1 = Sum.inr k ∧ xXs[k]? = some E ∧ XCx l G xEX11_vector (d + 6) [.ref 0, .int a0, .int a1] h E (fun h2 => h2 = r.2 ∧ LY r.2) := by
  refine xe_of (R := Int32) (V := fun x => some (.int x)) hl xvX11_vector rfl (Nat.le_of_ble_eq_true rfl) (by omega) ?_
  unfold f_t_vector at hf
  refine XS.go (s_aloadn rfl rfl rfl) ?_
  refine XS.go (s_getr rfl xf11_22 (LY.lt L0 (by decide)) (LY.k0 L0) (by decide) rfl (LY.r0_2 L0)) ?_
  rcases e11 : f_w_takeAll 5 h with _ | r10
  · rw [e11] at hf; cases hf
  rw [e11] at hf; dsimp only at hf
  refine r_callv rfl xvX10_takeAll xm11_230 (kf_w_takeAll (d := d) L0 e11) (LY.lt L0 (by decide)) (LY.k5 L0) (by decide) rfl rfl (by omega) (by decide) (Nat.le_of_ble_eq_true rfl) ?_
  rintro _ _ ⟨⟨rfl, rfl⟩, L12⟩
  refine XS.go (s_istoren rfl rfl (Nat.le_of_ble_eq_true rfl)) ?_
  refine XS.go (s_aloadn rfl rfl rfl) ?_
  refine XS.go (s_getr rfl xf11_46 (LY.lt L12 (by decide)) (LY.k0 L12) (by decide) rfl (LY.r0_6 L12)) ?_
  rcases e14 : f_u_isOpen r10.2 with _ | r13
  · rw [e14] at hf; cases hf
  rw [e14] at hf; dsimp only at hf
  refine r_callv rfl xvX0_isOpen xm11_213 (kf_u_isOpen (d := d) L12 e14) (LY.lt L12 (by decide)) (LY.k1244 L12) (by decide) rfl rfl (by omega) (by decide) (Nat.le_of_ble_eq_true rfl) ?_
  rintro _ _ ⟨⟨rfl, rfl⟩, L15⟩
  refine r_if_eq (tgt := 28) rfl rfl (fun qc16 => ?_) (fun qc16 => ?_)
  · rw [if_pos qc16] at hf
    refine XS.go (s_aloadn rfl rfl rfl) ?_
    refine XS.go (s_iloadn rfl rfl rfl) ?_
    refine XS.go (s_iloadn rfl rfl rfl) ?_
    rcases e18 : f_t_valuesOfElement a0 a1 r13.2 with _ | r17
    · rw [e18] at hf; cases hf
    rw [e18] at hf; dsimp only at hf
    refine r_callv rfl xvX11_valuesOfElement xm11_233 (kf_t_valuesOfElement (d := d) L15 e18) (LY.lt L15 (by decide)) (LY.k0 L15) (by decide) rfl rfl (by omega) (by decide) (Nat.le_of_ble_eq_true rfl) ?_
    rintro _ _ ⟨⟨rfl, rfl⟩, L19⟩
    refine XS.go (s_istore rfl (Nat.le_of_ble_eq_true rfl)) ?_
    refine XS.go (s_iload rfl rfl) ?_
    refine XS.go (s_iconst (v := 1) rfl rfl) ?_
    refine r_icmp_lt (tgt := 59) rfl rfl (fun qc20 => ?_) (fun qc20 => ?_)
    · rw [if_pos qc20] at hf
      exact XR.forget (L2 := [none, none, none, none, none, none, none]) trivial (kb_t_vector_59 L19 hf)
    · rw [if_neg qc20] at hf
      refine XS.go (s_iloadn rfl rfl rfl) ?_
      refine XS.go (s_iload rfl rfl) ?_
      by_cases qk21 : ¬ r17.1 = 0
      rotate_left
      · rw [if_neg qk21] at hf; cases hf
      rw [if_pos qk21] at hf
      refine XS.go (s_irem qk21 rfl) ?_
      refine r_if_ne (tgt := 59) rfl rfl (fun qc22 => ?_) (fun qc22 => ?_)
      · rw [if_pos qc22] at hf
        exact XR.forget (L2 := [none, none, none, none, none, none, none]) trivial (kb_t_vector_59 L19 hf)
      · rw [if_neg qc22] at hf
        refine XS.go (s_aloadn rfl rfl rfl) ?_
        refine XS.go (s_iloadn rfl rfl rfl) ?_
        refine XS.go (s_iloadn rfl rfl rfl) ?_
        refine XS.go (s_iloadn rfl rfl rfl) ?_
        rcases e24 : f_t_areElements a0 a1 r10.1 r17.2 with _ | r23
        · rw [e24] at hf; cases hf
        rw [e24] at hf; dsimp only at hf
        refine r_callv rfl xvX11_areElements xm11_237 (kf_t_areElements (d := d) L19 e24) (LY.lt L19 (by decide)) (LY.k0 L19) (by decide) rfl rfl (by omega) (by decide) (Nat.le_of_ble_eq_true rfl) ?_
        rintro _ _ ⟨⟨rfl, rfl⟩, L25⟩
        refine r_if_ne (tgt := 69) rfl rfl (fun qc26 => ?_) (fun qc26 => ?_)
        · rw [if_pos qc26] at hf
          refine XS.go (s_iloadn rfl rfl rfl) ?_
          refine XS.go (s_iconst (v := 1) rfl rfl) ?_
          refine r_icmp_ne (tgt := 78) rfl rfl (fun qc27 => ?_) (fun qc27 => ?_)
          · rw [if_pos qc27] at hf
            refine XS.go (s_iloadn rfl rfl rfl) ?_
            exact XR.forget (L2 := [some (.ref 0), some (.int a0), none, some (.int r10.1), some (.int r17.1), none, none]) ⟨rfl, ⟨rfl, ⟨rfl, ⟨rfl, trivial⟩⟩⟩⟩ (kb_t_vector_79 L25 hf)
          · rw [if_neg qc27] at hf
            refine XS.go (s_iconst (v := 0) rfl rfl) ?_
            refine XS.go (s_goto (tgt := 79) rfl rfl) ?_
            exact XR.forget (L2 := [some (.ref 0), some (.int a0), none, some (.int r10.1), some (.int r17.1), none, none]) ⟨rfl, ⟨rfl, ⟨rfl, ⟨rfl, trivial⟩⟩⟩⟩ (kb_t_vector_79 L25 hf)
        · rw [if_neg qc26] at hf
          exact XR.forget (L2 := [none, none, none, none, none, none, none]) trivial (kb_t_vector_59 L25 hf)
  · rw [if_neg qc16] at hf
    by_cases qk28 : hz r13.2 < 1000000
    rotate_left
    · rw [if_neg qk28] at hf; cases hf
    rw [if_pos qk28] at hf
    cases hf
    exact XR.here (Or.inr ⟨1, _, rfl, rfl, ⟨216, 218, 220, 19, _, rfl, xthr1, ⟨⟨rfl, rfl, rfl⟩, Or.inl ⟨rfl, rfl, rfl⟩⟩, qk28⟩, rfl, LY.new L15 qk28⟩)
def f_t_suitsUnion (a0 : Nat) (h : XH) : Option (Int32 × XH) := (match f_w_at 5 0 h with | none => none | some r1 => (if (lg_cmp r1.1 1) < 0 then (some (0, r1.2)) else (if a0 < hz r1.2 ∧ hk r1.2 a0 = 2 then (if (lg_cmp r1.1 (Int32.toInt64 (hi r1.2 a0 3))) ≤ 0 then (match f_d_fieldAt a0 ((Int64.toInt32 r1.1) - 1) r1.2 with | none => none | some r7 => (match r7.1 with | none => (some (0, r7.2)) | some b11 => (match f_w_at 5 1 r7.2 with | none => none | some r12 => (if b11 < hz r12.2 ∧ hk r12.2 b11 = 3 then (match f_u_isThing r12.1 3 (hi r12.2 b11 4) (-1) r12.2 with | none => none | some r16 => (if r16.1 = 0 then (some (0, r16.2)) else (some (1, r16.2)))) else none)))) else (some (0, r1.2))) else none)))
set_option maxRecDepth 20000 in
theorem kf_t_suitsUnion {l : Launch} {G : XG} {d : Nat} {a0 : Nat} {h : XH} {r : Int32 × XH} (L0 : LY h) (hf : f_t_suitsUnion a0 h = some r) : XC l G xEX11_suitsUnion (d + 1) [.ref 0, .ref a0] h (fun v h2 => (h2 = r.2 ∧ v = some (.int r.1)) ∧ LY r.2) := by
  refine XC.virt xvX11_suitsUnion (Nat.le_of_ble_eq_true rfl) ?_
  unfold f_t_suitsUnion at hf
  refine XS.go (s_aloadn rfl rfl rfl) ?_
  refine XS.go (s_getr rfl xf11_22 (LY.lt L0 (by decide)) (LY.k0 L0) (by decide) rfl (LY.r0_2 L0)) ?_
  refine XS.go (s_iconst (v := 0) rfl rfl) ?_
  rcases e2 : f_w_at 5 0 h with _ | r1
  · rw [e2] at hf; cases hf
  rw [e2] at hf; dsimp only at hf
  refine r_callv rfl xvX10_at xm11_261 (kf_w_at (d := d) L0 e2) (LY.lt L0 (by decide)) (LY.k5 L0) (by decide) rfl rfl (by omega) (by decide) (Nat.le_of_ble_eq_true rfl) ?_
  rintro _ _ ⟨⟨rfl, rfl⟩, L3⟩
  refine XS.go (s_lstoren rfl rfl (Nat.le_of_ble_eq_true rfl)) ?_
  refine XS.go (s_aloadn rfl rfl rfl) ?_
  refine XS.go (s_ifnull_r rfl) ?_
  refine XS.go (s_lloadn rfl rfl rfl) ?_
  refine XS.go (s_lconst (v := 1) rfl rfl) ?_
  refine XS.go (s_lcmp rfl) ?_
  refine r_if_lt (tgt := 29) rfl rfl (fun qc4 => ?_) (fun qc4 => ?_)
  · rw [if_pos qc4] at hf
    refine XS.go (s_iconst (v := 0) rfl rfl) ?_
    cases hf
    exact XR.retz rfl rfl (by decide) (fun hret => ⟨_, hret, ⟨rfl, rfl⟩, L3⟩)
  · rw [if_neg qc4] at hf
    refine XS.go (s_lloadn rfl rfl rfl) ?_
    refine XS.go (s_aloadn rfl rfl rfl) ?_
    by_cases qk5 : a0 < hz r1.2 ∧ hk r1.2 a0 = 2
    rotate_left
    · rw [if_neg qk5] at hf; cases hf
    rw [if_pos qk5] at hf
    refine XS.go (s_getie rfl xf11_149 qk5.1 qk5.2 (by decide) rfl rfl) ?_
    refine XS.go (s_i2l rfl) ?_
    refine XS.go (s_lcmp rfl) ?_
    refine r_if_le (tgt := 31) rfl rfl (fun qc6 => ?_) (fun qc6 => ?_)
    · rw [if_pos qc6] at hf
      refine XS.go (s_aloadn rfl rfl rfl) ?_
      refine XS.go (s_lloadn rfl rfl rfl) ?_
      refine XS.go (s_l2i rfl) ?_
      refine XS.go (s_iconst (v := 1) rfl rfl) ?_
      refine XS.go (s_isub rfl) ?_
      rcases e8 : f_d_fieldAt a0 ((Int64.toInt32 r1.1) - 1) r1.2 with _ | r7
      · rw [e8] at hf; cases hf
      rw [e8] at hf; dsimp only at hf
      refine r_callv rfl xvX2_fieldAt xm11_189 (kf_d_fieldAt (d := d) L3 e8) qk5.1 qk5.2 (by decide) rfl rfl (by omega) (by decide) (Nat.le_of_ble_eq_true rfl) ?_
      rintro _ _ ⟨⟨rfl, rfl⟩, L9⟩
      refine XS.go (s_astoreO rfl (Nat.le_of_ble_eq_true rfl)) ?_
      refine XS.go (s_aloadO rfl rfl) ?_
      refine r_ifnull (tgt := 75) rfl rfl (fun qn10 => ?_) (fun b11 qn10 => ?_)
      · rw [qn10] at hf; dsimp only at hf; try rw [qn10]
        refine XS.go (s_iconst (v := 0) rfl rfl) ?_
        cases hf
        exact XR.retz rfl rfl (by decide) (fun hret => ⟨_, hret, ⟨rfl, rfl⟩, L9⟩)
      · rw [qn10] at hf; dsimp only at hf; try rw [qn10]
        refine XS.go (s_aloadn rfl rfl rfl) ?_
        refine XS.go (s_getr rfl xf11_46 (LY.lt L9 (by decide)) (LY.k0 L9) (by decide) rfl (LY.r0_6 L9)) ?_
        refine XS.go (s_aloadn rfl rfl rfl) ?_
        refine XS.go (s_getr rfl xf11_22 (LY.lt L9 (by decide)) (LY.k0 L9) (by decide) rfl (LY.r0_2 L9)) ?_
        refine XS.go (s_iconst (v := 1) rfl rfl) ?_
        rcases e13 : f_w_at 5 1 r7.2 with _ | r12
        · rw [e13] at hf; cases hf
        rw [e13] at hf; dsimp only at hf
        refine r_callv rfl xvX10_at xm11_261 (kf_w_at (d := d) L9 e13) (LY.lt L9 (by decide)) (LY.k5 L9) (by decide) rfl rfl (by omega) (by decide) (Nat.le_of_ble_eq_true rfl) ?_
        rintro _ _ ⟨⟨rfl, rfl⟩, L14⟩
        refine XS.go (s_iconst (v := 3) rfl rfl) ?_
        refine XS.go (s_aload rfl rfl) ?_
        by_cases qk15 : b11 < hz r12.2 ∧ hk r12.2 b11 = 3
        rotate_left
        · rw [if_neg qk15] at hf; cases hf
        rw [if_pos qk15] at hf
        refine XS.go (s_getie rfl xf11_176 qk15.1 qk15.2 (by decide) rfl rfl) ?_
        refine XS.go (s_iconst (v := (-1)) rfl rfl) ?_
        rcases e17 : f_u_isThing r12.1 3 (hi r12.2 b11 4) (-1) r12.2 with _ | r16
        · rw [e17] at hf; cases hf
        rw [e17] at hf; dsimp only at hf
        refine r_callv rfl xvX0_isThing xm11_268 (kf_u_isThing (d := d) L14 e17) (LY.lt L14 (by decide)) (LY.k1244 L14) (by decide) rfl rfl (by omega) (by decide) (Nat.le_of_ble_eq_true rfl) ?_
        rintro _ _ ⟨⟨rfl, rfl⟩, L18⟩
        refine r_if_eq (tgt := 75) rfl rfl (fun qc19 => ?_) (fun qc19 => ?_)
        · rw [if_pos qc19] at hf
          refine XS.go (s_iconst (v := 0) rfl rfl) ?_
          cases hf
          exact XR.retz rfl rfl (by decide) (fun hret => ⟨_, hret, ⟨rfl, rfl⟩, L18⟩)
        · rw [if_neg qc19] at hf
          refine XS.go (s_iconst (v := 1) rfl rfl) ?_
          refine XS.go (s_goto (tgt := 76) rfl rfl) ?_
          cases hf
          exact XR.retz rfl rfl (by decide) (fun hret => ⟨_, hret, ⟨rfl, rfl⟩, L18⟩)
    · rw [if_neg qc6] at hf
      refine XS.go (s_iconst (v := 0) rfl rfl) ?_
      cases hf
      exact XR.retz rfl rfl (by decide) (fun hret => ⟨_, hret, ⟨rfl, rfl⟩, L3⟩)
def b_t_suits_150 (x1 : Nat) (x2 : Int32) (h : XH) : Option (Int32 × XH) := (if ¬ x2 = 1 then (some (0, h)) else (match f_w_at 5 0 h with | none => none | some r2 => (if x1 < hz r2.2 ∧ hk r2.2 x1 = 3 then (match f_u_isThing r2.1 (hi r2.2 x1 3) (hi r2.2 x1 4) (hi r2.2 x1 5) r2.2 with | none => none | some r6 => (if r6.1 = 0 then (some (0, r6.2)) else (some (1, r6.2)))) else none)))
set_option maxRecDepth 20000 in
theorem kb_t_suits_150 {l : Launch} {G : XG} {d : Nat} {x1 : Nat} {x2 : Int32} {h : XH} {r : Int32 × XH} (L0 : LY h) (hf : b_t_suits_150 x1 x2 h = some r) : XR l G xEX11_suits (d + 3) (150, [some (.ref 0), some (.ref x1), some (.int x2)], [], h) (fun C => ∃ v, xRet xEX11_suits C v ∧ (C.2.2.2 = r.2 ∧ v = some (.int r.1)) ∧ LY r.2) := by
  unfold b_t_suits_150 at hf
  refine XS.go (s_iloadn rfl rfl rfl) ?_
  refine XS.go (s_iconst (v := 1) rfl rfl) ?_
  refine r_icmp_ne (tgt := 189) rfl rfl (fun qc1 => ?_) (fun qc1 => ?_)
  · rw [if_pos qc1] at hf
    refine XS.go (s_iconst (v := 0) rfl rfl) ?_
    cases hf
    exact XR.retz rfl rfl (by decide) (fun hret => ⟨_, hret, ⟨rfl, rfl⟩, L0⟩)
  · rw [if_neg qc1] at hf
    refine XS.go (s_aloadn rfl rfl rfl) ?_
    refine XS.go (s_getr rfl xf11_46 (LY.lt L0 (by decide)) (LY.k0 L0) (by decide) rfl (LY.r0_6 L0)) ?_
    refine XS.go (s_aloadn rfl rfl rfl) ?_
    refine XS.go (s_getr rfl xf11_22 (LY.lt L0 (by decide)) (LY.k0 L0) (by decide) rfl (LY.r0_2 L0)) ?_
    refine XS.go (s_iconst (v := 0) rfl rfl) ?_
    rcases e3 : f_w_at 5 0 h with _ | r2
    · rw [e3] at hf; cases hf
    rw [e3] at hf; dsimp only at hf
    refine r_callv rfl xvX10_at xm11_261 (kf_w_at (d := d) L0 e3) (LY.lt L0 (by decide)) (LY.k5 L0) (by decide) rfl rfl (by omega) (by decide) (Nat.le_of_ble_eq_true rfl) ?_
    rintro _ _ ⟨⟨rfl, rfl⟩, L4⟩
    refine XS.go (s_aloadn rfl rfl rfl) ?_
    by_cases qk5 : x1 < hz r2.2 ∧ hk r2.2 x1 = 3
    rotate_left
    · rw [if_neg qk5] at hf; cases hf
    rw [if_pos qk5] at hf
    refine XS.go (s_getie rfl xf11_171 qk5.1 qk5.2 (by decide) rfl rfl) ?_
    refine XS.go (s_aloadn rfl rfl rfl) ?_
    refine XS.go (s_getie rfl xf11_176 qk5.1 qk5.2 (by decide) rfl rfl) ?_
    refine XS.go (s_aloadn rfl rfl rfl) ?_
    refine XS.go (s_getie rfl xf11_179 qk5.1 qk5.2 (by decide) rfl rfl) ?_
    rcases e7 : f_u_isThing r2.1 (hi r2.2 x1 3) (hi r2.2 x1 4) (hi r2.2 x1 5) r2.2 with _ | r6
    · rw [e7] at hf; cases hf
    rw [e7] at hf; dsimp only at hf
    refine r_callv rfl xvX0_isThing xm11_268 (kf_u_isThing (d := d) L4 e7) (LY.lt L4 (by decide)) (LY.k1244 L4) (by decide) rfl rfl (by omega) (by decide) (Nat.le_of_ble_eq_true rfl) ?_
    rintro _ _ ⟨⟨rfl, rfl⟩, L8⟩
    refine r_if_eq (tgt := 189) rfl rfl (fun qc9 => ?_) (fun qc9 => ?_)
    · rw [if_pos qc9] at hf
      refine XS.go (s_iconst (v := 0) rfl rfl) ?_
      cases hf
      exact XR.retz rfl rfl (by decide) (fun hret => ⟨_, hret, ⟨rfl, rfl⟩, L8⟩)
    · rw [if_neg qc9] at hf
      refine XS.go (s_iconst (v := 1) rfl rfl) ?_
      refine XS.go (s_goto (tgt := 190) rfl rfl) ?_
      cases hf
      exact XR.retz rfl rfl (by decide) (fun hret => ⟨_, hret, ⟨rfl, rfl⟩, L8⟩)
def f_t_suits (a0 : Nat) (a1 : Int32) (h : XH) : Option (Int32 × XH) := (if a0 < hz h ∧ hk h a0 = 3 then (if (hi h a0 3) = 0 then (if ¬ a1 = 1 then (some (0, h)) else (match f_w_at 5 0 h with | none => none | some r13 => (match f_t_isValue (hi h a0 4) r13.1 r13.2 with | none => none | some r16 => (if r16.1 = 0 then (some (0, r16.2)) else (some (1, r16.2)))))) else (if (hi h a0 3) = 1 then (b_t_suits_150 a0 a1 h) else (if (hi h a0 3) = 2 then (match hr h 0 4 with | none => none | some b20 => (if b20 < hz h ∧ hk h b20 = 9 then (match hr h b20 0 with | none => none | some b23 => (if b23 < hz h ∧ hk h b23 = 4 then (match f_g_at b23 (hi h a0 4) h with | none => none | some r26 => (match r26.1 with | none => none | some b29 => (match f_t_leafCount b29 r26.2 with | none => none | some r31 => (if ¬ a1 = r31.1 then (some (0, r31.2)) else (match hr r31.2 0 4 with | none => none | some b35 => (if b35 < hz r31.2 ∧ hk r31.2 b35 = 9 then (match hr r31.2 b35 0 with | none => none | some b38 => (if a0 < hz r31.2 ∧ hk r31.2 a0 = 3 then (if b38 < hz r31.2 ∧ hk r31.2 b38 = 4 then (match f_g_at b38 (hi r31.2 a0 4) r31.2 with | none => none | some r42 => (match r42.1 with | none => none | some b45 => (match f_t_areLeaves b45 a1 r42.2 with | none => none | some r47 => (if r47.1 = 0 then (some (0, r47.2)) else (some (1, r47.2)))))) else none) else none)) else none)))))) else none)) else none)) else (if (hi h a0 3) = 3 then (b_t_suits_150 a0 a1 h) else (if (hi h a0 3) = 4 then (if ¬ a1 = 2 then (some (0, h)) else (match hr h 0 4 with | none => none | some b52 => (if b52 < hz h ∧ hk h b52 = 9 then (match hr h b52 2 with | none => none | some b55 => (if b55 < hz h ∧ hk h b55 = 4 then (match f_g_at b55 (hi h a0 4) h with | none => none | some r58 => (match r58.1 with | none => none | some b61 => (match f_t_suitsUnion b61 r58.2 with | none => none | some r63 => (if r63.1 = 0 then (some (0, r63.2)) else (some (1, r63.2)))))) else none)) else none))) else (b_t_suits_150 a0 a1 h)))))) else none)
set_option maxRecDepth 20000 in
theorem kf_t_suits {l : Launch} {G : XG} {d : Nat} {a0 : Nat} {a1 : Int32} {h : XH} {r : Int32 × XH} (L0 : LY h) (hf : f_t_suits a0 a1 h = some r) : XC l G xEX11_suits (d + 3) [.ref 0, .ref a0, .int a1] h (fun v h2 => (h2 = r.2 ∧ v = some (.int r.1)) ∧ LY r.2) := by
  refine XC.virt xvX11_suits (Nat.le_of_ble_eq_true rfl) ?_
  unfold f_t_suits at hf
  refine XS.go (s_aloadn rfl rfl rfl) ?_
  by_cases qk10 : a0 < hz h ∧ hk h a0 = 3
  rotate_left
  · rw [if_neg qk10] at hf; cases hf
  rw [if_pos qk10] at hf
  refine XS.go (s_getie rfl xf11_171 qk10.1 qk10.2 (by decide) rfl rfl) ?_
  by_cases qs11_0 : (hi h a0 3) = 0
  · rw [if_pos qs11_0] at hf
    refine XS.go (s_tswI (tgt := 40) rfl (by rw [qs11_0]; decide) (by rw [qs11_0]; decide) (by rw [qs11_0]; rfl) rfl) ?_
    refine XS.go (s_iloadn rfl rfl rfl) ?_
    refine XS.go (s_iconst (v := 1) rfl rfl) ?_
    refine r_icmp_ne (tgt := 67) rfl rfl (fun qc12 => ?_) (fun qc12 => ?_)
    · rw [if_pos qc12] at hf
      refine XS.go (s_iconst (v := 0) rfl rfl) ?_
      cases hf
      exact XR.retz rfl rfl (by decide) (fun hret => ⟨_, hret, ⟨rfl, rfl⟩, L0⟩)
    · rw [if_neg qc12] at hf
      refine XS.go (s_aloadn rfl rfl rfl) ?_
      refine XS.go (s_getie rfl xf11_176 qk10.1 qk10.2 (by decide) rfl rfl) ?_
      refine XS.go (s_aloadn rfl rfl rfl) ?_
      refine XS.go (s_getr rfl xf11_22 (LY.lt L0 (by decide)) (LY.k0 L0) (by decide) rfl (LY.r0_2 L0)) ?_
      refine XS.go (s_iconst (v := 0) rfl rfl) ?_
      rcases e14 : f_w_at 5 0 h with _ | r13
      · rw [e14] at hf; cases hf
      rw [e14] at hf; dsimp only at hf
      refine r_callv rfl xvX10_at xm11_261 (kf_w_at (d := d) L0 e14) (LY.lt L0 (by decide)) (LY.k5 L0) (by decide) rfl rfl (by omega) (by decide) (Nat.le_of_ble_eq_true rfl) ?_
      rintro _ _ ⟨⟨rfl, rfl⟩, L15⟩
      rcases e17 : f_t_isValue (hi h a0 4) r13.1 r13.2 with _ | r16
      · rw [e17] at hf; cases hf
      rw [e17] at hf; dsimp only at hf
      refine r_calls rfl xsX11_isValue xm11_264 (kf_t_isValue (d := d) L15 e17) rfl rfl (by omega) (by decide) (Nat.le_of_ble_eq_true rfl) ?_
      rintro _ _ ⟨⟨rfl, rfl⟩, L18⟩
      refine r_if_eq (tgt := 67) rfl rfl (fun qc19 => ?_) (fun qc19 => ?_)
      · rw [if_pos qc19] at hf
        refine XS.go (s_iconst (v := 0) rfl rfl) ?_
        cases hf
        exact XR.retz rfl rfl (by decide) (fun hret => ⟨_, hret, ⟨rfl, rfl⟩, L18⟩)
      · rw [if_neg qc19] at hf
        refine XS.go (s_iconst (v := 1) rfl rfl) ?_
        refine XS.go (s_goto (tgt := 68) rfl rfl) ?_
        cases hf
        exact XR.retz rfl rfl (by decide) (fun hret => ⟨_, hret, ⟨rfl, rfl⟩, L18⟩)
  rw [if_neg qs11_0] at hf
  by_cases qs11_1 : (hi h a0 3) = 1
  · rw [if_pos qs11_1] at hf
    refine XS.go (s_tswI (tgt := 150) rfl (by rw [qs11_1]; decide) (by rw [qs11_1]; decide) (by rw [qs11_1]; rfl) rfl) ?_
    exact XR.forget (L2 := [some (.ref 0), some (.ref a0), some (.int a1)]) ⟨rfl, ⟨rfl, ⟨rfl, trivial⟩⟩⟩ (kb_t_suits_150 L0 hf)
  rw [if_neg qs11_1] at hf
  by_cases qs11_2 : (hi h a0 3) = 2
  · rw [if_pos qs11_2] at hf
    refine XS.go (s_tswI (tgt := 69) rfl (by rw [qs11_2]; decide) (by rw [qs11_2]; decide) (by rw [qs11_2]; rfl) rfl) ?_
    refine XS.go (s_iloadn rfl rfl rfl) ?_
    refine XS.go (s_aloadn rfl rfl rfl) ?_
    rcases qr21 : hr h 0 4 with _ | b20
    · rw [qr21] at hf; cases hf
    rw [qr21] at hf; dsimp only at hf
    refine XS.go (s_getr rfl xf11_36 (LY.lt L0 (by decide)) (LY.k0 L0) (by decide) rfl qr21) ?_
    by_cases qk22 : b20 < hz h ∧ hk h b20 = 9
    rotate_left
    · rw [if_neg qk22] at hf; cases hf
    rw [if_pos qk22] at hf
    rcases qr24 : hr h b20 0 with _ | b23
    · rw [qr24] at hf; cases hf
    rw [qr24] at hf; dsimp only at hf
    refine XS.go (s_getr rfl xf11_125 qk22.1 qk22.2 (by decide) rfl qr24) ?_
    refine XS.go (s_aloadn rfl rfl rfl) ?_
    refine XS.go (s_getie rfl xf11_176 qk10.1 qk10.2 (by decide) rfl rfl) ?_
    by_cases qk25 : b23 < hz h ∧ hk h b23 = 4
    rotate_left
    · rw [if_neg qk25] at hf; cases hf
    rw [if_pos qk25] at hf
    rcases e27 : f_g_at b23 (hi h a0 4) h with _ | r26
    · rw [e27] at hf; cases hf
    rw [e27] at hf; dsimp only at hf
    refine r_callv rfl xvX4_at xm11_134 (kf_g_at (d := d) L0 e27) qk25.1 qk25.2 (by decide) rfl rfl (by omega) (by decide) (Nat.le_of_ble_eq_true rfl) ?_
    rintro _ _ ⟨⟨rfl, rfl⟩, L28⟩
    rcases qo30 : r26.1 with _ | b29
    · rw [qo30] at hf; cases hf
    rw [qo30] at hf; dsimp only at hf; try rw [qo30]
    rcases e32 : f_t_leafCount b29 r26.2 with _ | r31
    · rw [e32] at hf; cases hf
    rw [e32] at hf; dsimp only at hf
    refine r_calls rfl xsX11_leafCount xm11_252 (kf_t_leafCount (d := d) L28 e32) rfl rfl (by omega) (by decide) (Nat.le_of_ble_eq_true rfl) ?_
    rintro _ _ ⟨⟨rfl, rfl⟩, L33⟩
    refine r_icmp_ne (tgt := 116) rfl rfl (fun qc34 => ?_) (fun qc34 => ?_)
    · rw [if_pos qc34] at hf
      refine XS.go (s_iconst (v := 0) rfl rfl) ?_
      cases hf
      exact XR.retz rfl rfl (by decide) (fun hret => ⟨_, hret, ⟨rfl, rfl⟩, L33⟩)
    · rw [if_neg qc34] at hf
      refine XS.go (s_aloadn rfl rfl rfl) ?_
      refine XS.go (s_aloadn rfl rfl rfl) ?_
      rcases qr36 : hr r31.2 0 4 with _ | b35
      · rw [qr36] at hf; cases hf
      rw [qr36] at hf; dsimp only at hf
      refine XS.go (s_getr rfl xf11_36 (LY.lt L33 (by decide)) (LY.k0 L33) (by decide) rfl qr36) ?_
      by_cases qk37 : b35 < hz r31.2 ∧ hk r31.2 b35 = 9
      rotate_left
      · rw [if_neg qk37] at hf; cases hf
      rw [if_pos qk37] at hf
      rcases qr39 : hr r31.2 b35 0 with _ | b38
      · rw [qr39] at hf; cases hf
      rw [qr39] at hf; dsimp only at hf
      refine XS.go (s_getr rfl xf11_125 qk37.1 qk37.2 (by decide) rfl qr39) ?_
      refine XS.go (s_aloadn rfl rfl rfl) ?_
      by_cases qk40 : a0 < hz r31.2 ∧ hk r31.2 a0 = 3
      rotate_left
      · rw [if_neg qk40] at hf; cases hf
      rw [if_pos qk40] at hf
      refine XS.go (s_getie rfl xf11_176 qk40.1 qk40.2 (by decide) rfl rfl) ?_
      by_cases qk41 : b38 < hz r31.2 ∧ hk r31.2 b38 = 4
      rotate_left
      · rw [if_neg qk41] at hf; cases hf
      rw [if_pos qk41] at hf
      rcases e43 : f_g_at b38 (hi r31.2 a0 4) r31.2 with _ | r42
      · rw [e43] at hf; cases hf
      rw [e43] at hf; dsimp only at hf
      refine r_callv rfl xvX4_at xm11_134 (kf_g_at (d := d) L33 e43) qk41.1 qk41.2 (by decide) rfl rfl (by omega) (by decide) (Nat.le_of_ble_eq_true rfl) ?_
      rintro _ _ ⟨⟨rfl, rfl⟩, L44⟩
      refine XS.go (s_iloadn rfl rfl rfl) ?_
      rcases qo46 : r42.1 with _ | b45
      · rw [qo46] at hf; cases hf
      rw [qo46] at hf; dsimp only at hf; try rw [qo46]
      rcases e48 : f_t_areLeaves b45 a1 r42.2 with _ | r47
      · rw [e48] at hf; cases hf
      rw [e48] at hf; dsimp only at hf
      refine r_callv rfl xvX11_areLeaves xm11_257 (kf_t_areLeaves (d := d) L44 e48) (LY.lt L44 (by decide)) (LY.k0 L44) (by decide) rfl rfl (by omega) (by decide) (Nat.le_of_ble_eq_true rfl) ?_
      rintro _ _ ⟨⟨rfl, rfl⟩, L49⟩
      refine r_if_eq (tgt := 116) rfl rfl (fun qc50 => ?_) (fun qc50 => ?_)
      · rw [if_pos qc50] at hf
        refine XS.go (s_iconst (v := 0) rfl rfl) ?_
        cases hf
        exact XR.retz rfl rfl (by decide) (fun hret => ⟨_, hret, ⟨rfl, rfl⟩, L49⟩)
      · rw [if_neg qc50] at hf
        refine XS.go (s_iconst (v := 1) rfl rfl) ?_
        refine XS.go (s_goto (tgt := 117) rfl rfl) ?_
        cases hf
        exact XR.retz rfl rfl (by decide) (fun hret => ⟨_, hret, ⟨rfl, rfl⟩, L49⟩)
  rw [if_neg qs11_2] at hf
  by_cases qs11_3 : (hi h a0 3) = 3
  · rw [if_pos qs11_3] at hf
    refine XS.go (s_tswI (tgt := 150) rfl (by rw [qs11_3]; decide) (by rw [qs11_3]; decide) (by rw [qs11_3]; rfl) rfl) ?_
    exact XR.forget (L2 := [some (.ref 0), some (.ref a0), some (.int a1)]) ⟨rfl, ⟨rfl, ⟨rfl, trivial⟩⟩⟩ (kb_t_suits_150 L0 hf)
  rw [if_neg qs11_3] at hf
  by_cases qs11_4 : (hi h a0 3) = 4
  · rw [if_pos qs11_4] at hf
    refine XS.go (s_tswI (tgt := 118) rfl (by rw [qs11_4]; decide) (by rw [qs11_4]; decide) (by rw [qs11_4]; rfl) rfl) ?_
    refine XS.go (s_iloadn rfl rfl rfl) ?_
    refine XS.go (s_iconst (v := 2) rfl rfl) ?_
    refine r_icmp_ne (tgt := 148) rfl rfl (fun qc51 => ?_) (fun qc51 => ?_)
    · rw [if_pos qc51] at hf
      refine XS.go (s_iconst (v := 0) rfl rfl) ?_
      cases hf
      exact XR.retz rfl rfl (by decide) (fun hret => ⟨_, hret, ⟨rfl, rfl⟩, L0⟩)
    · rw [if_neg qc51] at hf
      refine XS.go (s_aloadn rfl rfl rfl) ?_
      refine XS.go (s_aloadn rfl rfl rfl) ?_
      rcases qr53 : hr h 0 4 with _ | b52
      · rw [qr53] at hf; cases hf
      rw [qr53] at hf; dsimp only at hf
      refine XS.go (s_getr rfl xf11_36 (LY.lt L0 (by decide)) (LY.k0 L0) (by decide) rfl qr53) ?_
      by_cases qk54 : b52 < hz h ∧ hk h b52 = 9
      rotate_left
      · rw [if_neg qk54] at hf; cases hf
      rw [if_pos qk54] at hf
      rcases qr56 : hr h b52 2 with _ | b55
      · rw [qr56] at hf; cases hf
      rw [qr56] at hf; dsimp only at hf
      refine XS.go (s_getr rfl xf11_128 qk54.1 qk54.2 (by decide) rfl qr56) ?_
      refine XS.go (s_aloadn rfl rfl rfl) ?_
      refine XS.go (s_getie rfl xf11_176 qk10.1 qk10.2 (by decide) rfl rfl) ?_
      by_cases qk57 : b55 < hz h ∧ hk h b55 = 4
      rotate_left
      · rw [if_neg qk57] at hf; cases hf
      rw [if_pos qk57] at hf
      rcases e59 : f_g_at b55 (hi h a0 4) h with _ | r58
      · rw [e59] at hf; cases hf
      rw [e59] at hf; dsimp only at hf
      refine r_callv rfl xvX4_at xm11_134 (kf_g_at (d := d) L0 e59) qk57.1 qk57.2 (by decide) rfl rfl (by omega) (by decide) (Nat.le_of_ble_eq_true rfl) ?_
      rintro _ _ ⟨⟨rfl, rfl⟩, L60⟩
      rcases qo62 : r58.1 with _ | b61
      · rw [qo62] at hf; cases hf
      rw [qo62] at hf; dsimp only at hf; try rw [qo62]
      rcases e64 : f_t_suitsUnion b61 r58.2 with _ | r63
      · rw [e64] at hf; cases hf
      rw [e64] at hf; dsimp only at hf
      refine r_callv rfl xvX11_suitsUnion xm11_309 (kf_t_suitsUnion (d := d) L60 e64) (LY.lt L60 (by decide)) (LY.k0 L60) (by decide) rfl rfl (by omega) (by decide) (Nat.le_of_ble_eq_true rfl) ?_
      rintro _ _ ⟨⟨rfl, rfl⟩, L65⟩
      refine r_if_eq (tgt := 148) rfl rfl (fun qc66 => ?_) (fun qc66 => ?_)
      · rw [if_pos qc66] at hf
        refine XS.go (s_iconst (v := 0) rfl rfl) ?_
        cases hf
        exact XR.retz rfl rfl (by decide) (fun hret => ⟨_, hret, ⟨rfl, rfl⟩, L65⟩)
      · rw [if_neg qc66] at hf
        refine XS.go (s_iconst (v := 1) rfl rfl) ?_
        refine XS.go (s_goto (tgt := 149) rfl rfl) ?_
        cases hf
        exact XR.retz rfl rfl (by decide) (fun hret => ⟨_, hret, ⟨rfl, rfl⟩, L65⟩)
  rw [if_neg qs11_4] at hf
  have qs11_o : ((hi h a0 3)).toInt < 0 ∨ 4 < ((hi h a0 3)).toInt := by
    refine tsw_out 0 4 (by decide) ?_
    intro k h1 h2
    have z : k = 0 ∨ k = 1 ∨ k = 2 ∨ k = 3 ∨ k = 4 := by omega
    rcases z with rfl | rfl | rfl | rfl | rfl
    · exact qs11_0
    · exact qs11_1
    · exact qs11_2
    · exact qs11_3
    · exact qs11_4
  refine XS.go (s_tswO (tgt := 150) rfl qs11_o rfl) ?_
  exact XR.forget (L2 := [some (.ref 0), some (.ref a0), some (.int a1)]) ⟨rfl, ⟨rfl, ⟨rfl, trivial⟩⟩⟩ (kb_t_suits_150 L0 hf)
def b_t_ready_37 (h : XH) : Option (Sum Int32 Nat × XH) := (if hz h < 1000000 then (some (Sum.inr 1, hthr h)) else none)
set_option maxRecDepth 20000 in
theorem kb_t_ready_37 {l : Launch} {G : XG} {d : Nat} {h : XH} {r : Sum Int32 Nat × XH} (L0 : LY h) (hf : b_t_ready_37 h = some r) : XR l G xEX11_ready (d + 6) (37, [none, none], [], h) (fun C => (∃ v, xRet xEX11_ready C v ∧ (C.2.2.2 = r.2 ∧ ∃ x, r.1 = Sum.inl x ∧ v = some (.int x)) ∧ LY r.2) ∨ ∃ k E, r.1 = Sum.inr k ∧ xXs[k]? = some E ∧ XThrown xEX11_ready C E ∧ hthr C.2.2.2 = r.2 ∧ LY r.2) := by
  unfold b_t_ready_37 at hf
  by_cases qk1 : hz h < 1000000
  rotate_left
  · rw [if_neg qk1] at hf; cases hf
  rw [if_pos qk1] at hf
  cases hf
  exact XR.here (Or.inr ⟨1, _, rfl, rfl, ⟨216, 316, 220, 28, _, rfl, xthr1, ⟨⟨rfl, rfl, rfl⟩, Or.inr ⟨rfl, rfl, rfl⟩⟩, qk1⟩, rfl, LY.new L0 qk1⟩)
def f_t_ready (h : XH) : Option (Sum Int32 Nat × XH) := (match f_u_isOpen h with | none => none | some r2 => (if r2.1 = 0 then (b_t_ready_37 r2.2) else (match hr r2.2 0 4 with | none => none | some b6 => (if b6 < hz r2.2 ∧ hk r2.2 b6 = 9 then (match hr r2.2 b6 1 with | none => none | some b9 => (if b9 < hz r2.2 ∧ hk r2.2 b9 = 4 then (match f_g_at b9 (hi r2.2 1244 10) r2.2 with | none => none | some r12 => (match r12.1 with | none => none | some b15 => (match f_u_hasRequired b15 r12.2 with | none => none | some r17 => (if ¬ r17.1 = 0 then (match f_u_close r17.2 with | none => none | some r21 => (if ¬ r21.1 = (-1) then (some (Sum.inl r21.1, r21.2)) else (if hz r21.2 < 1000000 then (some (Sum.inr 2, hthr r21.2)) else none))) else (b_t_ready_37 r17.2))))) else none)) else none))))
set_option maxRecDepth 20000 in
theorem kf_t_ready {l : Launch} {G : XG} {d : Nat} {h : XH} {r : Sum Int32 Nat × XH} (hl : l.stackTraces = false) (L0 : LY h) (hf : f_t_ready h = some r) : (∃ x, r.1 = Sum.inl x ∧ XC l G xEX11_ready (d + 6) [.ref 0] h (fun v h2 => (h2 = r.2 ∧ v = some (.int x)) ∧ LY r.2)) ∨ ∃ k E, r.1 = Sum.inr k ∧ xXs[k]? = some E ∧ XCx l G xEX11_ready (d + 6) [.ref 0] h E (fun h2 => h2 = r.2 ∧ LY r.2) := by
  refine xe_of (R := Int32) (V := fun x => some (.int x)) hl xvX11_ready rfl (Nat.le_of_ble_eq_true rfl) (by omega) ?_
  unfold f_t_ready at hf
  refine XS.go (s_aloadn rfl rfl rfl) ?_
  refine XS.go (s_getr rfl xf11_46 (LY.lt L0 (by decide)) (LY.k0 L0) (by decide) rfl (LY.r0_6 L0)) ?_
  rcases e3 : f_u_isOpen h with _ | r2
  · rw [e3] at hf; cases hf
  rw [e3] at hf; dsimp only at hf
  refine r_callv rfl xvX0_isOpen xm11_213 (kf_u_isOpen (d := d) L0 e3) (LY.lt L0 (by decide)) (LY.k1244 L0) (by decide) rfl rfl (by omega) (by decide) (Nat.le_of_ble_eq_true rfl) ?_
  rintro _ _ ⟨⟨rfl, rfl⟩, L4⟩
  refine r_if_eq (tgt := 37) rfl rfl (fun qc5 => ?_) (fun qc5 => ?_)
  · rw [if_pos qc5] at hf
    exact XR.forget (L2 := [none, none]) trivial (kb_t_ready_37 L4 hf)
  · rw [if_neg qc5] at hf
    refine XS.go (s_aloadn rfl rfl rfl) ?_
    refine XS.go (s_getr rfl xf11_46 (LY.lt L4 (by decide)) (LY.k0 L4) (by decide) rfl (LY.r0_6 L4)) ?_
    refine XS.go (s_aloadn rfl rfl rfl) ?_
    rcases qr7 : hr r2.2 0 4 with _ | b6
    · rw [qr7] at hf; cases hf
    rw [qr7] at hf; dsimp only at hf
    refine XS.go (s_getr rfl xf11_36 (LY.lt L4 (by decide)) (LY.k0 L4) (by decide) rfl qr7) ?_
    by_cases qk8 : b6 < hz r2.2 ∧ hk r2.2 b6 = 9
    rotate_left
    · rw [if_neg qk8] at hf; cases hf
    rw [if_pos qk8] at hf
    rcases qr10 : hr r2.2 b6 1 with _ | b9
    · rw [qr10] at hf; cases hf
    rw [qr10] at hf; dsimp only at hf
    refine XS.go (s_getr rfl xf11_116 qk8.1 qk8.2 (by decide) rfl qr10) ?_
    refine XS.go (s_aloadn rfl rfl rfl) ?_
    refine XS.go (s_getr rfl xf11_46 (LY.lt L4 (by decide)) (LY.k0 L4) (by decide) rfl (LY.r0_6 L4)) ?_
    refine XS.go (s_getie rfl xf11_286 (LY.lt L4 (by decide)) (LY.k1244 L4) (by decide) rfl rfl) ?_
    by_cases qk11 : b9 < hz r2.2 ∧ hk r2.2 b9 = 4
    rotate_left
    · rw [if_neg qk11] at hf; cases hf
    rw [if_pos qk11] at hf
    rcases e13 : f_g_at b9 (hi r2.2 1244 10) r2.2 with _ | r12
    · rw [e13] at hf; cases hf
    rw [e13] at hf; dsimp only at hf
    refine r_callv rfl xvX4_at xm11_134 (kf_g_at (d := d) L4 e13) qk11.1 qk11.2 (by decide) rfl rfl (by omega) (by decide) (Nat.le_of_ble_eq_true rfl) ?_
    rintro _ _ ⟨⟨rfl, rfl⟩, L14⟩
    rcases qo16 : r12.1 with _ | b15
    · rw [qo16] at hf; cases hf
    rw [qo16] at hf; dsimp only at hf; try rw [qo16]
    rcases e18 : f_u_hasRequired b15 r12.2 with _ | r17
    · rw [e18] at hf; cases hf
    rw [e18] at hf; dsimp only at hf
    refine r_callv rfl xvX0_hasRequired xm11_313 (kf_u_hasRequired (d := d) L14 e18) (LY.lt L14 (by decide)) (LY.k1244 L14) (by decide) rfl rfl (by omega) (by decide) (Nat.le_of_ble_eq_true rfl) ?_
    rintro _ _ ⟨⟨rfl, rfl⟩, L19⟩
    refine r_if_ne (tgt := 48) rfl rfl (fun qc20 => ?_) (fun qc20 => ?_)
    · rw [if_pos qc20] at hf
      refine XS.go (s_aloadn rfl rfl rfl) ?_
      refine XS.go (s_getr rfl xf11_46 (LY.lt L19 (by decide)) (LY.k0 L19) (by decide) rfl (LY.r0_6 L19)) ?_
      rcases e22 : f_u_close r17.2 with _ | r21
      · rw [e22] at hf; cases hf
      rw [e22] at hf; dsimp only at hf
      refine r_callv rfl xvX0_close xm11_318 (kf_u_close (d := d) L19 e22) (LY.lt L19 (by decide)) (LY.k1244 L19) (by decide) rfl rfl (by omega) (by decide) (Nat.le_of_ble_eq_true rfl) ?_
      rintro _ _ ⟨⟨rfl, rfl⟩, L23⟩
      refine XS.go (s_istoren rfl rfl (Nat.le_of_ble_eq_true rfl)) ?_
      refine XS.go (s_iloadn rfl rfl rfl) ?_
      refine XS.go (s_iconst (v := (-1)) rfl rfl) ?_
      refine r_icmp_ne (tgt := 72) rfl rfl (fun qc24 => ?_) (fun qc24 => ?_)
      · rw [if_pos qc24] at hf
        refine XS.go (s_iloadn rfl rfl rfl) ?_
        cases hf
        exact XR.reti rfl rfl (fun hret => Or.inl ⟨_, hret, ⟨rfl, ⟨_, rfl, rfl⟩⟩, L23⟩)
      · rw [if_neg qc24] at hf
        by_cases qk25 : hz r21.2 < 1000000
        rotate_left
        · rw [if_neg qk25] at hf; cases hf
        rw [if_pos qk25] at hf
        cases hf
        exact XR.here (Or.inr ⟨2, _, rfl, rfl, ⟨225, 321, 229, 29, _, rfl, xthr2, ⟨⟨rfl, rfl, rfl⟩, Or.inr ⟨rfl, rfl, rfl⟩⟩, qk25⟩, rfl, LY.new L23 qk25⟩)
    · rw [if_neg qc20] at hf
      exact XR.forget (L2 := [none, none]) trivial (kb_t_ready_37 L19 hf)
def f_t_finish (a0 : Int32) (h : XH) : Option (Sum Int32 Nat × XH) := (match f_u_isOpen h with | none => none | some r1 => (if r1.1 = 0 then (match hr r1.2 0 4 with | none => none | some b5 => (if b5 < hz r1.2 ∧ hk r1.2 b5 = 9 then (match f_u_isThing (Int32.toInt64 a0) 3 (hi r1.2 b5 5) (-1) r1.2 with | none => none | some r8 => (if ¬ r8.1 = 0 then (match f_u_moveTo 3 a0 r8.2 with | none => none | some r12 => (if ¬ r12.1 = 0 then (some (Sum.inl (hi r12.2 3 1), r12.2)) else (if hz r12.2 < 1000000 then (some (Sum.inr 2, hthr r12.2)) else none))) else (if hz r8.2 < 1000000 then (some (Sum.inr 0, hthr r8.2)) else none))) else none)) else (if hz r1.2 < 1000000 then (some (Sum.inr 1, hthr r1.2)) else none)))
set_option maxRecDepth 20000 in
theorem kf_t_finish {l : Launch} {G : XG} {d : Nat} {a0 : Int32} {h : XH} {r : Sum Int32 Nat × XH} (hl : l.stackTraces = false) (L0 : LY h) (hf : f_t_finish a0 h = some r) : (∃ x, r.1 = Sum.inl x ∧ XC l G xEX11_finish (d + 6) [.ref 0, .int a0] h (fun v h2 => (h2 = r.2 ∧ v = some (.int x)) ∧ LY r.2)) ∨ ∃ k E, r.1 = Sum.inr k ∧ xXs[k]? = some E ∧ XCx l G xEX11_finish (d + 6) [.ref 0, .int a0] h E (fun h2 => h2 = r.2 ∧ LY r.2) := by
  refine xe_of (R := Int32) (V := fun x => some (.int x)) hl xvX11_finish rfl (Nat.le_of_ble_eq_true rfl) (by omega) ?_
  unfold f_t_finish at hf
  refine XS.go (s_aloadn rfl rfl rfl) ?_
  refine XS.go (s_getr rfl xf11_46 (LY.lt L0 (by decide)) (LY.k0 L0) (by decide) rfl (LY.r0_6 L0)) ?_
  rcases e2 : f_u_isOpen h with _ | r1
  · rw [e2] at hf; cases hf
  rw [e2] at hf; dsimp only at hf
  refine r_callv rfl xvX0_isOpen xm11_213 (kf_u_isOpen (d := d) L0 e2) (LY.lt L0 (by decide)) (LY.k1244 L0) (by decide) rfl rfl (by omega) (by decide) (Nat.le_of_ble_eq_true rfl) ?_
  rintro _ _ ⟨⟨rfl, rfl⟩, L3⟩
  refine r_if_eq (tgt := 20) rfl rfl (fun qc4 => ?_) (fun qc4 => ?_)
  · rw [if_pos qc4] at hf
    refine XS.go (s_aloadn rfl rfl rfl) ?_
    refine XS.go (s_getr rfl xf11_46 (LY.lt L3 (by decide)) (LY.k0 L3) (by decide) rfl (LY.r0_6 L3)) ?_
    refine XS.go (s_iloadn rfl rfl rfl) ?_
    refine XS.go (s_i2l rfl) ?_
    refine XS.go (s_iconst (v := 3) rfl rfl) ?_
    refine XS.go (s_aloadn rfl rfl rfl) ?_
    rcases qr6 : hr r1.2 0 4 with _ | b5
    · rw [qr6] at hf; cases hf
    rw [qr6] at hf; dsimp only at hf
    refine XS.go (s_getr rfl xf11_36 (LY.lt L3 (by decide)) (LY.k0 L3) (by decide) rfl qr6) ?_
    by_cases qk7 : b5 < hz r1.2 ∧ hk r1.2 b5 = 9
    rotate_left
    · rw [if_neg qk7] at hf; cases hf
    rw [if_pos qk7] at hf
    refine XS.go (s_getie rfl xf11_131 qk7.1 qk7.2 (by decide) rfl rfl) ?_
    refine XS.go (s_iconst (v := (-1)) rfl rfl) ?_
    rcases e9 : f_u_isThing (Int32.toInt64 a0) 3 (hi r1.2 b5 5) (-1) r1.2 with _ | r8
    · rw [e9] at hf; cases hf
    rw [e9] at hf; dsimp only at hf
    refine r_callv rfl xvX0_isThing xm11_268 (kf_u_isThing (d := d) L3 e9) (LY.lt L3 (by decide)) (LY.k1244 L3) (by decide) rfl rfl (by omega) (by decide) (Nat.le_of_ble_eq_true rfl) ?_
    rintro _ _ ⟨⟨rfl, rfl⟩, L10⟩
    refine r_if_ne (tgt := 52) rfl rfl (fun qc11 => ?_) (fun qc11 => ?_)
    · rw [if_pos qc11] at hf
      refine XS.go (s_aloadn rfl rfl rfl) ?_
      refine XS.go (s_getr rfl xf11_46 (LY.lt L10 (by decide)) (LY.k0 L10) (by decide) rfl (LY.r0_6 L10)) ?_
      refine XS.go (s_aloadn rfl rfl rfl) ?_
      refine XS.go (s_getr rfl xf11_16 (LY.lt L10 (by decide)) (LY.k0 L10) (by decide) rfl (LY.r0_1 L10)) ?_
      refine XS.go (s_iloadn rfl rfl rfl) ?_
      rcases e13 : f_u_moveTo 3 a0 r8.2 with _ | r12
      · rw [e13] at hf; cases hf
      rw [e13] at hf; dsimp only at hf
      refine r_callv rfl xvX0_moveTo xm11_325 (kf_u_moveTo (d := d) L10 e13) (LY.lt L10 (by decide)) (LY.k1244 L10) (by decide) rfl rfl (by omega) (by decide) (Nat.le_of_ble_eq_true rfl) ?_
      rintro _ _ ⟨⟨rfl, rfl⟩, L14⟩
      refine r_if_ne (tgt := 78) rfl rfl (fun qc15 => ?_) (fun qc15 => ?_)
      · rw [if_pos qc15] at hf
        refine XS.go (s_aloadn rfl rfl rfl) ?_
        refine XS.go (s_getr rfl xf11_16 (LY.lt L14 (by decide)) (LY.k0 L14) (by decide) rfl (LY.r0_1 L14)) ?_
        refine XS.go (s_getie rfl xf11_73 (LY.lt L14 (by decide)) (LY.k3 L14) (by decide) rfl rfl) ?_
        cases hf
        exact XR.reti rfl rfl (fun hret => Or.inl ⟨_, hret, ⟨rfl, ⟨_, rfl, rfl⟩⟩, L14⟩)
      · rw [if_neg qc15] at hf
        by_cases qk16 : hz r12.2 < 1000000
        rotate_left
        · rw [if_neg qk16] at hf; cases hf
        rw [if_pos qk16] at hf
        cases hf
        exact XR.here (Or.inr ⟨2, _, rfl, rfl, ⟨225, 329, 229, 31, _, rfl, xthr2, ⟨⟨rfl, rfl, rfl⟩, Or.inr ⟨rfl, rfl, rfl⟩⟩, qk16⟩, rfl, LY.new L14 qk16⟩)
    · rw [if_neg qc11] at hf
      by_cases qk17 : hz r8.2 < 1000000
      rotate_left
      · rw [if_neg qk17] at hf; cases hf
      rw [if_pos qk17] at hf
      cases hf
      exact XR.here (Or.inr ⟨0, _, rfl, rfl, ⟨103, 323, 107, 30, _, rfl, xthr0, ⟨⟨rfl, rfl, rfl⟩, Or.inr ⟨rfl, rfl, rfl⟩⟩, qk17⟩, rfl, LY.new L10 qk17⟩)
  · rw [if_neg qc4] at hf
    by_cases qk18 : hz r1.2 < 1000000
    rotate_left
    · rw [if_neg qk18] at hf; cases hf
    rw [if_pos qk18] at hf
    cases hf
    exact XR.here (Or.inr ⟨1, _, rfl, rfl, ⟨216, 218, 220, 19, _, rfl, xthr1, ⟨⟨rfl, rfl, rfl⟩, Or.inl ⟨rfl, rfl, rfl⟩⟩, qk18⟩, rfl, LY.new L3 qk18⟩)
def f_t_clear (h : XH) : Option (Int32 × XH) := (match f_u_empty h with | none => none | some r1 => (some ((hi h 1244 1), r1.2)))
set_option maxRecDepth 20000 in
theorem kf_t_clear {l : Launch} {G : XG} {d : Nat} {h : XH} {r : Int32 × XH} (L0 : LY h) (hf : f_t_clear h = some r) : XC l G xEX11_clear (d + 1) [.ref 0] h (fun v h2 => (h2 = r.2 ∧ v = some (.int r.1)) ∧ LY r.2) := by
  refine XC.virt xvX11_clear (Nat.le_of_ble_eq_true rfl) ?_
  unfold f_t_clear at hf
  refine XS.go (s_aloadn rfl rfl rfl) ?_
  refine XS.go (s_getr rfl xf11_46 (LY.lt L0 (by decide)) (LY.k0 L0) (by decide) rfl (LY.r0_6 L0)) ?_
  refine XS.go (s_getie rfl xf11_331 (LY.lt L0 (by decide)) (LY.k1244 L0) (by decide) rfl rfl) ?_
  refine XS.go (s_istoren rfl rfl (Nat.le_of_ble_eq_true rfl)) ?_
  refine XS.go (s_aloadn rfl rfl rfl) ?_
  refine XS.go (s_getr rfl xf11_46 (LY.lt L0 (by decide)) (LY.k0 L0) (by decide) rfl (LY.r0_6 L0)) ?_
  rcases e2 : f_u_empty h with _ | r1
  · rw [e2] at hf; cases hf
  rw [e2] at hf; dsimp only at hf
  refine r_callv rfl xvX0_empty xm11_110 (kf_u_empty (d := d) L0 e2) (LY.lt L0 (by decide)) (LY.k1244 L0) (by decide) rfl rfl (by omega) (by decide) (Nat.le_of_ble_eq_true rfl) ?_
  rintro _ _ ⟨⟨rfl, rfl⟩, L3⟩
  refine XS.go (s_iloadn rfl rfl rfl) ?_
  cases hf
  exact XR.reti rfl rfl (fun hret => ⟨_, hret, ⟨rfl, rfl⟩, L3⟩)
def f_t_out (a0 : Int32) (h : XH) : Option (Int32 × XH) := (match f_b_octetOrNone 3 a0 h with | none => none | some r1 => (some (r1.1, r1.2)))
set_option maxRecDepth 20000 in
theorem kf_t_out {l : Launch} {G : XG} {d : Nat} {a0 : Int32} {h : XH} {r : Int32 × XH} (L0 : LY h) (hf : f_t_out a0 h = some r) : XC l G xEX11_out (d + 2) [.ref 0, .int a0] h (fun v h2 => (h2 = r.2 ∧ v = some (.int r.1)) ∧ LY r.2) := by
  refine XC.virt xvX11_out (Nat.le_of_ble_eq_true rfl) ?_
  unfold f_t_out at hf
  refine XS.go (s_aloadn rfl rfl rfl) ?_
  refine XS.go (s_getr rfl xf11_16 (LY.lt L0 (by decide)) (LY.k0 L0) (by decide) rfl (LY.r0_1 L0)) ?_
  refine XS.go (s_iloadn rfl rfl rfl) ?_
  rcases e2 : f_b_octetOrNone 3 a0 h with _ | r1
  · rw [e2] at hf; cases hf
  rw [e2] at hf; dsimp only at hf
  refine r_callv rfl xvX1_octetOrNone xm11_332 (kf_b_octetOrNone (d := d) L0 e2) (LY.lt L0 (by decide)) (LY.k3 L0) (by decide) rfl rfl (by omega) (by decide) (Nat.le_of_ble_eq_true rfl) ?_
  rintro _ _ ⟨⟨rfl, rfl⟩, L3⟩
  cases hf
  exact XR.reti rfl rfl (fun hret => ⟨_, hret, ⟨rfl, rfl⟩, L3⟩)
def f_t_count (a0 : Int32) (h : XH) : Option (Int32 × XH) := (if a0 = 0 then (some ((hi h 1 1), h)) else (if a0 = 1 then (some ((hi h 5 1), h)) else (if a0 = 2 then (some ((hi h 1244 1), h)) else (if a0 = 3 then (some ((hi h 1244 7), h)) else (if a0 = 4 then (some ((hi h 1244 10), h)) else (if a0 = 5 then (some ((hi h 3 1), h)) else (if a0 = 6 then (some ((hi h 1256 1), h)) else (if a0 = 7 then (some ((hi h 1244 9), h)) else (if a0 = 8 then (some ((hi h 0 12), h)) else (some ((-1), h)))))))))))
set_option maxRecDepth 20000 in
theorem kf_t_count {l : Launch} {G : XG} {d : Nat} {a0 : Int32} {h : XH} {r : Int32 × XH} (L0 : LY h) (hf : f_t_count a0 h = some r) : XC l G xEX11_count d [.ref 0, .int a0] h (fun v h2 => (h2 = r.2 ∧ v = some (.int r.1)) ∧ LY r.2) := by
  refine XC.virt xvX11_count (Nat.le_of_ble_eq_true rfl) ?_
  unfold f_t_count at hf
  refine XS.go (s_iloadn rfl rfl rfl) ?_
  by_cases qs1_0 : a0 = 0
  · rw [if_pos qs1_0] at hf
    refine XS.go (s_tswI (tgt := 52) rfl (by rw [qs1_0]; decide) (by rw [qs1_0]; decide) (by rw [qs1_0]; rfl) rfl) ?_
    refine XS.go (s_aloadn rfl rfl rfl) ?_
    refine XS.go (s_getr rfl xf11_10 (LY.lt L0 (by decide)) (LY.k0 L0) (by decide) rfl (LY.r0_0 L0)) ?_
    refine XS.go (s_getie rfl xf11_73 (LY.lt L0 (by decide)) (LY.k1 L0) (by decide) rfl rfl) ?_
    cases hf
    exact XR.reti rfl rfl (fun hret => ⟨_, hret, ⟨rfl, rfl⟩, L0⟩)
  rw [if_neg qs1_0] at hf
  by_cases qs1_1 : a0 = 1
  · rw [if_pos qs1_1] at hf
    refine XS.go (s_tswI (tgt := 60) rfl (by rw [qs1_1]; decide) (by rw [qs1_1]; decide) (by rw [qs1_1]; rfl) rfl) ?_
    refine XS.go (s_aloadn rfl rfl rfl) ?_
    refine XS.go (s_getr rfl xf11_22 (LY.lt L0 (by decide)) (LY.k0 L0) (by decide) rfl (LY.r0_2 L0)) ?_
    refine XS.go (s_getie rfl xf11_335 (LY.lt L0 (by decide)) (LY.k5 L0) (by decide) rfl rfl) ?_
    cases hf
    exact XR.reti rfl rfl (fun hret => ⟨_, hret, ⟨rfl, rfl⟩, L0⟩)
  rw [if_neg qs1_1] at hf
  by_cases qs1_2 : a0 = 2
  · rw [if_pos qs1_2] at hf
    refine XS.go (s_tswI (tgt := 68) rfl (by rw [qs1_2]; decide) (by rw [qs1_2]; decide) (by rw [qs1_2]; rfl) rfl) ?_
    refine XS.go (s_aloadn rfl rfl rfl) ?_
    refine XS.go (s_getr rfl xf11_46 (LY.lt L0 (by decide)) (LY.k0 L0) (by decide) rfl (LY.r0_6 L0)) ?_
    refine XS.go (s_getie rfl xf11_331 (LY.lt L0 (by decide)) (LY.k1244 L0) (by decide) rfl rfl) ?_
    cases hf
    exact XR.reti rfl rfl (fun hret => ⟨_, hret, ⟨rfl, rfl⟩, L0⟩)
  rw [if_neg qs1_2] at hf
  by_cases qs1_3 : a0 = 3
  · rw [if_pos qs1_3] at hf
    refine XS.go (s_tswI (tgt := 76) rfl (by rw [qs1_3]; decide) (by rw [qs1_3]; decide) (by rw [qs1_3]; rfl) rfl) ?_
    refine XS.go (s_aloadn rfl rfl rfl) ?_
    refine XS.go (s_getr rfl xf11_46 (LY.lt L0 (by decide)) (LY.k0 L0) (by decide) rfl (LY.r0_6 L0)) ?_
    refine XS.go (s_getie rfl xf11_336 (LY.lt L0 (by decide)) (LY.k1244 L0) (by decide) rfl rfl) ?_
    cases hf
    exact XR.reti rfl rfl (fun hret => ⟨_, hret, ⟨rfl, rfl⟩, L0⟩)
  rw [if_neg qs1_3] at hf
  by_cases qs1_4 : a0 = 4
  · rw [if_pos qs1_4] at hf
    refine XS.go (s_tswI (tgt := 84) rfl (by rw [qs1_4]; decide) (by rw [qs1_4]; decide) (by rw [qs1_4]; rfl) rfl) ?_
    refine XS.go (s_aloadn rfl rfl rfl) ?_
    refine XS.go (s_getr rfl xf11_46 (LY.lt L0 (by decide)) (LY.k0 L0) (by decide) rfl (LY.r0_6 L0)) ?_
    refine XS.go (s_getie rfl xf11_286 (LY.lt L0 (by decide)) (LY.k1244 L0) (by decide) rfl rfl) ?_
    cases hf
    exact XR.reti rfl rfl (fun hret => ⟨_, hret, ⟨rfl, rfl⟩, L0⟩)
  rw [if_neg qs1_4] at hf
  by_cases qs1_5 : a0 = 5
  · rw [if_pos qs1_5] at hf
    refine XS.go (s_tswI (tgt := 92) rfl (by rw [qs1_5]; decide) (by rw [qs1_5]; decide) (by rw [qs1_5]; rfl) rfl) ?_
    refine XS.go (s_aloadn rfl rfl rfl) ?_
    refine XS.go (s_getr rfl xf11_16 (LY.lt L0 (by decide)) (LY.k0 L0) (by decide) rfl (LY.r0_1 L0)) ?_
    refine XS.go (s_getie rfl xf11_73 (LY.lt L0 (by decide)) (LY.k3 L0) (by decide) rfl rfl) ?_
    cases hf
    exact XR.reti rfl rfl (fun hret => ⟨_, hret, ⟨rfl, rfl⟩, L0⟩)
  rw [if_neg qs1_5] at hf
  by_cases qs1_6 : a0 = 6
  · rw [if_pos qs1_6] at hf
    refine XS.go (s_tswI (tgt := 100) rfl (by rw [qs1_6]; decide) (by rw [qs1_6]; decide) (by rw [qs1_6]; rfl) rfl) ?_
    refine XS.go (s_aloadn rfl rfl rfl) ?_
    refine XS.go (s_getr rfl xf11_53 (LY.lt L0 (by decide)) (LY.k0 L0) (by decide) rfl (LY.r0_7 L0)) ?_
    refine XS.go (s_getr rfl xf11_339 (LY.lt L0 (by decide)) (LY.k1255 L0) (by decide) rfl (LY.r1255_0 L0)) ?_
    refine XS.go (s_getie rfl xf11_73 (LY.lt L0 (by decide)) (LY.k1256 L0) (by decide) rfl rfl) ?_
    cases hf
    exact XR.reti rfl rfl (fun hret => ⟨_, hret, ⟨rfl, rfl⟩, L0⟩)
  rw [if_neg qs1_6] at hf
  by_cases qs1_7 : a0 = 7
  · rw [if_pos qs1_7] at hf
    refine XS.go (s_tswI (tgt := 111) rfl (by rw [qs1_7]; decide) (by rw [qs1_7]; decide) (by rw [qs1_7]; rfl) rfl) ?_
    refine XS.go (s_aloadn rfl rfl rfl) ?_
    refine XS.go (s_getr rfl xf11_46 (LY.lt L0 (by decide)) (LY.k0 L0) (by decide) rfl (LY.r0_6 L0)) ?_
    refine XS.go (s_getie rfl xf11_342 (LY.lt L0 (by decide)) (LY.k1244 L0) (by decide) rfl rfl) ?_
    cases hf
    exact XR.reti rfl rfl (fun hret => ⟨_, hret, ⟨rfl, rfl⟩, L0⟩)
  rw [if_neg qs1_7] at hf
  by_cases qs1_8 : a0 = 8
  · rw [if_pos qs1_8] at hf
    refine XS.go (s_tswI (tgt := 119) rfl (by rw [qs1_8]; decide) (by rw [qs1_8]; decide) (by rw [qs1_8]; rfl) rfl) ?_
    refine XS.go (s_aloadn rfl rfl rfl) ?_
    refine XS.go (s_getie rfl xf11_70 (LY.lt L0 (by decide)) (LY.k0 L0) (by decide) rfl rfl) ?_
    cases hf
    exact XR.reti rfl rfl (fun hret => ⟨_, hret, ⟨rfl, rfl⟩, L0⟩)
  rw [if_neg qs1_8] at hf
  have qs1_o : (a0).toInt < 0 ∨ 8 < (a0).toInt := by
    refine tsw_out 0 8 (by decide) ?_
    intro k h1 h2
    have z : k = 0 ∨ k = 1 ∨ k = 2 ∨ k = 3 ∨ k = 4 ∨ k = 5 ∨ k = 6 ∨ k = 7 ∨ k = 8 := by omega
    rcases z with rfl | rfl | rfl | rfl | rfl | rfl | rfl | rfl | rfl
    · exact qs1_0
    · exact qs1_1
    · exact qs1_2
    · exact qs1_3
    · exact qs1_4
    · exact qs1_5
    · exact qs1_6
    · exact qs1_7
    · exact qs1_8
  refine XS.go (s_tswO (tgt := 124) rfl qs1_o rfl) ?_
  refine XS.go (s_iconst (v := (-1)) rfl rfl) ?_
  cases hf
  exact XR.reti rfl rfl (fun hret => ⟨_, hret, ⟨rfl, rfl⟩, L0⟩)
def b_t_load_53 (x2 : Nat) (x3 : Int32) (h : XH) : Option (Sum Int32 Nat × XH) := (match hr h 0 4 with | none => none | some b1 => (if b1 < hz h ∧ hk h b1 = 9 then (if ¬ (hi h b1 5) = (-1) then (if hz h < 1000000 then (match hr (hnew h 5 6) 0 4 with | none => none | some b7 => (if (hz h) < hz (hnew h 5 6) ∧ hk (hnew h 5 6) (hz h) = 5 then (match f_j_init (hz h) b7 x2 x3 (hnew h 5 6) with | none => none | some r10 => (if (hz h) < hz r10.2 ∧ hk r10.2 (hz h) = 5 then (match f_j_accepts (hz h) r10.2 with | none => none | some r14 => (if (hz h) < hz r14.2 ∧ hk r14.2 (hz h) = 5 then (if r14.1 = 0 then (if r14.1 = 0 ∨ r14.1 = 1 then (some (Sum.inl r14.1, (hsi (hsi r14.2 0 10 (hi r14.2 (hz h) 4)) 0 11 (hi r14.2 (hz h) 5)))) else none) else (match hr r14.2 0 4 with | none => none | some b20 => (if b20 < hz r14.2 ∧ hk r14.2 b20 = 9 then (match f_r_accept x2 x3 (hi r14.2 b20 5) (hsi (hsi (hsi r14.2 0 10 (hi r14.2 (hz h) 4)) 0 11 (hi r14.2 (hz h) 5)) 0 12 (hi r14.2 (hz h) 3)) with | none => none | some r23 => (if r14.1 = 0 ∨ r14.1 = 1 then (some (Sum.inl r14.1, r23.2)) else none)) else none))) else none)) else none)) else none)) else none) else (if hz h < 1000000 then (some (Sum.inr 1, hthr h)) else none)) else none))
set_option maxRecDepth 20000 in
theorem kb_t_load_53 {l : Launch} {G : XG} {d : Nat} {x2 : Nat} {x3 : Int32} {h : XH} {r : Sum Int32 Nat × XH} (L0 : LY h) (hf : b_t_load_53 x2 x3 h = some r) : XR l G xEX11_load (d + 202) (53, [some (.ref 0), none, some (.ref x2), some (.int x3), none, none], [], h) (fun C => (∃ v, xRet xEX11_load C v ∧ (C.2.2.2 = r.2 ∧ ∃ x, r.1 = Sum.inl x ∧ v = some (.int x)) ∧ LY r.2) ∨ ∃ k E, r.1 = Sum.inr k ∧ xXs[k]? = some E ∧ XThrown xEX11_load C E ∧ hthr C.2.2.2 = r.2 ∧ LY r.2) := by
  unfold b_t_load_53 at hf
  refine XS.go (s_aloadn rfl rfl rfl) ?_
  rcases qr2 : hr h 0 4 with _ | b1
  · rw [qr2] at hf; cases hf
  rw [qr2] at hf; dsimp only at hf
  refine XS.go (s_getr rfl xf11_36 (LY.lt L0 (by decide)) (LY.k0 L0) (by decide) rfl qr2) ?_
  by_cases qk3 : b1 < hz h ∧ hk h b1 = 9
  rotate_left
  · rw [if_neg qk3] at hf; cases hf
  rw [if_pos qk3] at hf
  refine XS.go (s_getie rfl xf11_131 qk3.1 qk3.2 (by decide) rfl rfl) ?_
  refine XS.go (s_iconst (v := (-1)) rfl rfl) ?_
  refine r_icmp_ne (tgt := 75) rfl rfl (fun qc4 => ?_) (fun qc4 => ?_)
  · rw [if_pos qc4] at hf
    by_cases qk5 : hz h < 1000000
    rotate_left
    · rw [if_neg qk5] at hf; cases hf
    rw [if_pos qk5] at hf
    have L6 : LY (hnew h 5 6) := LY.new L0 qk5
    refine XS.go (s_new (ci := 5) rfl (lg_3 175 rfl rfl) (by decide) rfl qk5) ?_
    refine XS.go (s_dup rfl rfl) ?_
    refine XS.go (s_aloadn rfl rfl rfl) ?_
    rcases qr8 : hr (hnew h 5 6) 0 4 with _ | b7
    · rw [qr8] at hf; cases hf
    rw [qr8] at hf; dsimp only at hf
    refine XS.go (s_getr rfl xf11_36 (LY.lt L6 (by decide)) (LY.k0 L6) (by decide) rfl qr8) ?_
    refine XS.go (s_aloadn rfl rfl rfl) ?_
    refine XS.go (s_iloadn rfl rfl rfl) ?_
    by_cases qk9 : (hz h) < hz (hnew h 5 6) ∧ hk (hnew h 5 6) (hz h) = 5
    rotate_left
    · rw [if_neg qk9] at hf; cases hf
    rw [if_pos qk9] at hf
    rcases e11 : f_j_init (hz h) b7 x2 x3 (hnew h 5 6) with _ | r10
    · rw [e11] at hf; cases hf
    rw [e11] at hf; dsimp only at hf
    refine r_calli rfl xnX5_init rfl xm11_351 (kf_j_init (d := d) L6 e11) rfl rfl (by omega) (by decide) (Nat.le_of_ble_eq_true rfl) ?_
    rintro _ _ ⟨⟨rfl, rfl⟩, L12⟩
    refine XS.go (s_astore rfl (Nat.le_of_ble_eq_true rfl)) ?_
    refine XS.go (s_aload rfl rfl) ?_
    by_cases qk13 : (hz h) < hz r10.2 ∧ hk r10.2 (hz h) = 5
    rotate_left
    · rw [if_neg qk13] at hf; cases hf
    rw [if_pos qk13] at hf
    rcases e15 : f_j_accepts (hz h) r10.2 with _ | r14
    · rw [e15] at hf; cases hf
    rw [e15] at hf; dsimp only at hf
    refine r_callv rfl xvX5_accepts xm11_354 (kf_j_accepts (d := d) L12 e15) qk13.1 qk13.2 (by decide) rfl rfl (by omega) (by decide) (Nat.le_of_ble_eq_true rfl) ?_
    rintro _ _ ⟨⟨rfl, rfl⟩, L16⟩
    refine XS.go (s_istore rfl (Nat.le_of_ble_eq_true rfl)) ?_
    refine XS.go (s_aloadn rfl rfl rfl) ?_
    refine XS.go (s_aload rfl rfl) ?_
    by_cases qk17 : (hz h) < hz r14.2 ∧ hk r14.2 (hz h) = 5
    rotate_left
    · rw [if_neg qk17] at hf; cases hf
    rw [if_pos qk17] at hf
    refine XS.go (s_getie rfl xf11_357 qk17.1 qk17.2 (by decide) rfl rfl) ?_
    refine XS.go (s_puti rfl xf11_64 (LY.lt L16 (by decide)) (LY.k0 L16) (by decide) rfl (Or.inl rfl)) ?_
    refine XS.go (s_aloadn rfl rfl rfl) ?_
    refine XS.go (s_aload rfl rfl) ?_
    refine XS.go (s_getie rfl xf11_358 (by simp only [hz_hsi, hk_hsi, hz_hsj, hk_hsj]; exact qk17.1) (by simp only [hz_hsi, hk_hsi, hz_hsj, hk_hsj]; exact qk17.2) (by decide) rfl (hi_hsi_nk (by decide))) ?_
    refine XS.go (s_puti rfl xf11_67 (LY.lt (by simp only [LY_si, LY_sj]; exact L16) (by decide)) (LY.k0 (by simp only [LY_si, LY_sj]; exact L16)) (by decide) rfl (Or.inl rfl)) ?_
    refine XS.go (s_iload rfl rfl) ?_
    refine r_if_eq (tgt := 145) rfl rfl (fun qc18 => ?_) (fun qc18 => ?_)
    · rw [if_pos qc18] at hf
      refine XS.go (s_iload rfl rfl) ?_
      by_cases qk19 : r14.1 = 0 ∨ r14.1 = 1
      rotate_left
      · rw [if_neg qk19] at hf; cases hf
      rw [if_pos qk19] at hf
      cases hf
      exact XR.retz rfl rfl qk19 (fun hret => Or.inl ⟨_, hret, ⟨rfl, ⟨_, rfl, rfl⟩⟩, (by simp only [LY_si, LY_sj]; exact L16)⟩)
    · rw [if_neg qc18] at hf
      refine XS.go (s_aloadn rfl rfl rfl) ?_
      refine XS.go (s_aload rfl rfl) ?_
      refine XS.go (s_getie rfl xf11_359 (by simp only [hz_hsi, hk_hsi, hz_hsj, hk_hsj]; exact qk17.1) (by simp only [hz_hsi, hk_hsi, hz_hsj, hk_hsj]; exact qk17.2) (by decide) rfl ((hi_hsi_nk (by decide)).trans (hi_hsi_nk (by decide)))) ?_
      refine XS.go (s_puti rfl xf11_70 (LY.lt (by simp only [LY_si, LY_sj]; exact L16) (by decide)) (LY.k0 (by simp only [LY_si, LY_sj]; exact L16)) (by decide) rfl (Or.inl rfl)) ?_
      refine XS.go (s_aloadn rfl rfl rfl) ?_
      refine XS.go (s_getr rfl xf11_53 (LY.lt (by simp only [LY_si, LY_sj]; exact L16) (by decide)) (LY.k0 (by simp only [LY_si, LY_sj]; exact L16)) (by decide) rfl (LY.r0_7 (by simp only [LY_si, LY_sj]; exact L16))) ?_
      refine XS.go (s_aloadn rfl rfl rfl) ?_
      refine XS.go (s_iloadn rfl rfl rfl) ?_
      refine XS.go (s_aloadn rfl rfl rfl) ?_
      rcases qr21 : hr r14.2 0 4 with _ | b20
      · rw [qr21] at hf; cases hf
      rw [qr21] at hf; dsimp only at hf
      refine XS.go (s_getr rfl xf11_36 (LY.lt (by simp only [LY_si, LY_sj]; exact L16) (by decide)) (LY.k0 (by simp only [LY_si, LY_sj]; exact L16)) (by decide) rfl (by simp only [hr_hsi, hr_hsj]; exact qr21)) ?_
      by_cases qk22 : b20 < hz r14.2 ∧ hk r14.2 b20 = 9
      rotate_left
      · rw [if_neg qk22] at hf; cases hf
      rw [if_pos qk22] at hf
      refine XS.go (s_getie rfl xf11_131 (by simp only [hz_hsi, hk_hsi, hz_hsj, hk_hsj]; exact qk22.1) (by simp only [hz_hsi, hk_hsi, hz_hsj, hk_hsj]; exact qk22.2) (by decide) rfl ((hi_hsi_nk (by decide)).trans ((hi_hsi_nk (by decide)).trans (hi_hsi_nk (by decide))))) ?_
      rcases e24 : f_r_accept x2 x3 (hi r14.2 b20 5) (hsi (hsi (hsi r14.2 0 10 (hi r14.2 (hz h) 4)) 0 11 (hi r14.2 (hz h) 5)) 0 12 (hi r14.2 (hz h) 3)) with _ | r23
      · rw [e24] at hf; cases hf
      rw [e24] at hf; dsimp only at hf
      refine r_callv rfl xvX8_accept xm11_360 (kf_r_accept (d := d) (by simp only [LY_si, LY_sj]; exact L16) e24) (LY.lt (by simp only [LY_si, LY_sj]; exact L16) (by decide)) (LY.k1255 (by simp only [LY_si, LY_sj]; exact L16)) (by decide) rfl rfl (by omega) (by decide) (Nat.le_of_ble_eq_true rfl) ?_
      rintro _ _ ⟨⟨rfl, rfl⟩, L25⟩
      refine XS.go (s_iload rfl rfl) ?_
      by_cases qk26 : r14.1 = 0 ∨ r14.1 = 1
      rotate_left
      · rw [if_neg qk26] at hf; cases hf
      rw [if_pos qk26] at hf
      cases hf
      exact XR.retz rfl rfl qk26 (fun hret => Or.inl ⟨_, hret, ⟨rfl, ⟨_, rfl, rfl⟩⟩, L25⟩)
  · rw [if_neg qc4] at hf
    by_cases qk27 : hz h < 1000000
    rotate_left
    · rw [if_neg qk27] at hf; cases hf
    rw [if_pos qk27] at hf
    cases hf
    exact XR.here (Or.inr ⟨1, _, rfl, rfl, ⟨216, 347, 220, 33, _, rfl, xthr1, ⟨⟨rfl, rfl, rfl⟩, Or.inr ⟨rfl, rfl, rfl⟩⟩, qk27⟩, rfl, LY.new L0 qk27⟩)
def b_t_load_35 (x1 : Int32) (y0 : Nat) (h : XH) : Option (Sum Int32 Nat × XH) := (if y0 < hz h ∧ hk h y0 = 1 then (if ¬ x1 = 0 then (b_t_load_53 y0 (hi h y0 1) h) else (b_t_load_53 y0 (hi h y0 1) (hsi h 1 1 0))) else none)
set_option maxRecDepth 20000 in
theorem kb_t_load_35 {l : Launch} {G : XG} {d : Nat} {x1 : Int32} {y0 : Nat} {h : XH} {r : Sum Int32 Nat × XH} (L0 : LY h) (hf : b_t_load_35 x1 y0 h = some r) : XR l G xEX11_load (d + 202) (35, [some (.ref 0), some (.int x1), none, none, none, none], [(.ref y0)], h) (fun C => (∃ v, xRet xEX11_load C v ∧ (C.2.2.2 = r.2 ∧ ∃ x, r.1 = Sum.inl x ∧ v = some (.int x)) ∧ LY r.2) ∨ ∃ k E, r.1 = Sum.inr k ∧ xXs[k]? = some E ∧ XThrown xEX11_load C E ∧ hthr C.2.2.2 = r.2 ∧ LY r.2) := by
  unfold b_t_load_35 at hf
  refine XS.go (s_astoren rfl rfl (Nat.le_of_ble_eq_true rfl)) ?_
  refine XS.go (s_aloadn rfl rfl rfl) ?_
  by_cases qk28 : y0 < hz h ∧ hk h y0 = 1
  rotate_left
  · rw [if_neg qk28] at hf; cases hf
  rw [if_pos qk28] at hf
  refine XS.go (s_getie rfl xf11_73 qk28.1 qk28.2 (by decide) rfl rfl) ?_
  refine XS.go (s_istoren rfl rfl (Nat.le_of_ble_eq_true rfl)) ?_
  refine XS.go (s_iloadn rfl rfl rfl) ?_
  refine r_if_ne (tgt := 53) rfl rfl (fun qc29 => ?_) (fun qc29 => ?_)
  · rw [if_pos qc29] at hf
    exact XR.forget (L2 := [some (.ref 0), none, some (.ref y0), some (.int (hi h y0 1)), none, none]) ⟨rfl, ⟨rfl, ⟨rfl, trivial⟩⟩⟩ (kb_t_load_53 L0 hf)
  · rw [if_neg qc29] at hf
    refine XS.go (s_aloadn rfl rfl rfl) ?_
    refine XS.go (s_getr rfl xf11_10 (LY.lt L0 (by decide)) (LY.k0 L0) (by decide) rfl (LY.r0_0 L0)) ?_
    refine XS.go (s_iconst (v := 0) rfl rfl) ?_
    refine XS.go (s_puti rfl xf11_73 (LY.lt L0 (by decide)) (LY.k1 L0) (by decide) rfl (Or.inl rfl)) ?_
    exact XR.forget (L2 := [some (.ref 0), none, some (.ref y0), some (.int (hi h y0 1)), none, none]) ⟨rfl, ⟨rfl, ⟨rfl, trivial⟩⟩⟩ (kb_t_load_53 (by simp only [LY_si, LY_sj]; exact L0) hf)
def b_t_load_20 (x1 : Int32) (h : XH) : Option (Sum Int32 Nat × XH) := (if ¬ x1 = 0 then (b_t_load_35 x1 3 h) else (b_t_load_35 x1 1 h))
set_option maxRecDepth 20000 in
theorem kb_t_load_20 {l : Launch} {G : XG} {d : Nat} {x1 : Int32} {h : XH} {r : Sum Int32 Nat × XH} (L0 : LY h) (hf : b_t_load_20 x1 h = some r) : XR l G xEX11_load (d + 202) (20, [some (.ref 0), some (.int x1), none, none, none, none], [], h) (fun C => (∃ v, xRet xEX11_load C v ∧ (C.2.2.2 = r.2 ∧ ∃ x, r.1 = Sum.inl x ∧ v = some (.int x)) ∧ LY r.2) ∨ ∃ k E, r.1 = Sum.inr k ∧ xXs[k]? = some E ∧ XThrown xEX11_load C E ∧ hthr C.2.2.2 = r.2 ∧ LY r.2) := by
  unfold b_t_load_20 at hf
  refine XS.go (s_iloadn rfl rfl rfl) ?_
  refine r_if_ne (tgt := 31) rfl rfl (fun qc30 => ?_) (fun qc30 => ?_)
  · rw [if_pos qc30] at hf
    refine XS.go (s_aloadn rfl rfl rfl) ?_
    refine XS.go (s_getr rfl xf11_16 (LY.lt L0 (by decide)) (LY.k0 L0) (by decide) rfl (LY.r0_1 L0)) ?_
    exact XR.forget (L2 := [some (.ref 0), some (.int x1), none, none, none, none]) ⟨rfl, ⟨rfl, trivial⟩⟩ (kb_t_load_35 L0 hf)
  · rw [if_neg qc30] at hf
    refine XS.go (s_aloadn rfl rfl rfl) ?_
    refine XS.go (s_getr rfl xf11_10 (LY.lt L0 (by decide)) (LY.k0 L0) (by decide) rfl (LY.r0_0 L0)) ?_
    refine XS.go (s_goto (tgt := 35) rfl rfl) ?_
    exact XR.forget (L2 := [some (.ref 0), some (.int x1), none, none, none, none]) ⟨rfl, ⟨rfl, trivial⟩⟩ (kb_t_load_35 L0 hf)
def f_t_load (a0 : Int32) (h : XH) : Option (Sum Int32 Nat × XH) := (if a0 = 0 then (b_t_load_20 a0 h) else (if a0 = 1 then (b_t_load_20 a0 h) else (if hz h < 1000000 then (some (Sum.inr 0, hthr h)) else none)))
set_option maxRecDepth 20000 in
theorem kf_t_load {l : Launch} {G : XG} {d : Nat} {a0 : Int32} {h : XH} {r : Sum Int32 Nat × XH} (hl : l.stackTraces = false) (L0 : LY h) (hf : f_t_load a0 h = some r) : (∃ x, r.1 = Sum.inl x ∧ XC l G xEX11_load (d + 202) [.ref 0, .int a0] h (fun v h2 => (h2 = r.2 ∧ v = some (.int x)) ∧ LY r.2)) ∨ ∃ k E, r.1 = Sum.inr k ∧ xXs[k]? = some E ∧ XCx l G xEX11_load (d + 202) [.ref 0, .int a0] h E (fun h2 => h2 = r.2 ∧ LY r.2) := by
  refine xe_of (R := Int32) (V := fun x => some (.int x)) hl xvX11_load rfl (Nat.le_of_ble_eq_true rfl) (by omega) ?_
  unfold f_t_load at hf
  refine XS.go (s_iloadn rfl rfl rfl) ?_
  refine r_if_eq (tgt := 20) rfl rfl (fun qc31 => ?_) (fun qc31 => ?_)
  · rw [if_pos qc31] at hf
    exact XR.forget (L2 := [some (.ref 0), some (.int a0), none, none, none, none]) ⟨rfl, ⟨rfl, trivial⟩⟩ (kb_t_load_20 L0 hf)
  · rw [if_neg qc31] at hf
    refine XS.go (s_iloadn rfl rfl rfl) ?_
    refine XS.go (s_iconst (v := 1) rfl rfl) ?_
    refine r_icmp_eq (tgt := 20) rfl rfl (fun qc32 => ?_) (fun qc32 => ?_)
    · rw [if_pos qc32] at hf
      exact XR.forget (L2 := [some (.ref 0), some (.int a0), none, none, none, none]) ⟨rfl, ⟨rfl, trivial⟩⟩ (kb_t_load_20 L0 hf)
    · rw [if_neg qc32] at hf
      by_cases qk33 : hz h < 1000000
      rotate_left
      · rw [if_neg qk33] at hf; cases hf
      rw [if_pos qk33] at hf
      cases hf
      exact XR.here (Or.inr ⟨0, _, rfl, rfl, ⟨103, 345, 107, 32, _, rfl, xthr0, ⟨⟨rfl, rfl, rfl⟩, Or.inr ⟨rfl, rfl, rfl⟩⟩, qk33⟩, rfl, LY.new L0 qk33⟩)
def f_t_node (a0 : Int32) (h : XH) : Option (Int32 × XH) := (match hr h 0 4 with | none => none | some b1 => (match f_r_tell b1 a0 h with | none => none | some r3 => (some (r3.1, r3.2))))
set_option maxRecDepth 20000 in
theorem kf_t_node {l : Launch} {G : XG} {d : Nat} {a0 : Int32} {h : XH} {r : Int32 × XH} (L0 : LY h) (hf : f_t_node a0 h = some r) : XC l G xEX11_node (d + 4) [.ref 0, .int a0] h (fun v h2 => (h2 = r.2 ∧ v = some (.int r.1)) ∧ LY r.2) := by
  refine XC.virt xvX11_node (Nat.le_of_ble_eq_true rfl) ?_
  unfold f_t_node at hf
  refine XS.go (s_aloadn rfl rfl rfl) ?_
  refine XS.go (s_getr rfl xf11_53 (LY.lt L0 (by decide)) (LY.k0 L0) (by decide) rfl (LY.r0_7 L0)) ?_
  refine XS.go (s_aloadn rfl rfl rfl) ?_
  rcases qr2 : hr h 0 4 with _ | b1
  · rw [qr2] at hf; cases hf
  rw [qr2] at hf; dsimp only at hf
  refine XS.go (s_getr rfl xf11_36 (LY.lt L0 (by decide)) (LY.k0 L0) (by decide) rfl qr2) ?_
  refine XS.go (s_iloadn rfl rfl rfl) ?_
  rcases e4 : f_r_tell b1 a0 h with _ | r3
  · rw [e4] at hf; cases hf
  rw [e4] at hf; dsimp only at hf
  refine r_callv rfl xvX8_tell xm11_364 (kf_r_tell (d := d) L0 e4) (LY.lt L0 (by decide)) (LY.k1255 L0) (by decide) rfl rfl (by omega) (by decide) (Nat.le_of_ble_eq_true rfl) ?_
  rintro _ _ ⟨⟨rfl, rfl⟩, L5⟩
  cases hf
  exact XR.reti rfl rfl (fun hret => ⟨_, hret, ⟨rfl, rfl⟩, L5⟩)
def f_t_has (a0 : Int32) (h : XH) : Option (Int32 × XH) := (match hr h 0 4 with | none => none | some b1 => (match f_r_locate b1 a0 h with | none => none | some r3 => (if ¬ r3.1 = 0 then (if ¬ (hi r3.2 1255 8) = (-1) then (some (1, r3.2)) else (some (0, r3.2))) else (some ((-1), r3.2)))))
set_option maxRecDepth 20000 in
theorem kf_t_has {l : Launch} {G : XG} {d : Nat} {a0 : Int32} {h : XH} {r : Int32 × XH} (L0 : LY h) (hf : f_t_has a0 h = some r) : XC l G xEX11_has (d + 6) [.ref 0, .int a0] h (fun v h2 => (h2 = r.2 ∧ v = some (.int r.1)) ∧ LY r.2) := by
  refine XC.virt xvX11_has (Nat.le_of_ble_eq_true rfl) ?_
  unfold f_t_has at hf
  refine XS.go (s_aloadn rfl rfl rfl) ?_
  refine XS.go (s_getr rfl xf11_53 (LY.lt L0 (by decide)) (LY.k0 L0) (by decide) rfl (LY.r0_7 L0)) ?_
  refine XS.go (s_aloadn rfl rfl rfl) ?_
  rcases qr2 : hr h 0 4 with _ | b1
  · rw [qr2] at hf; cases hf
  rw [qr2] at hf; dsimp only at hf
  refine XS.go (s_getr rfl xf11_36 (LY.lt L0 (by decide)) (LY.k0 L0) (by decide) rfl qr2) ?_
  refine XS.go (s_iloadn rfl rfl rfl) ?_
  rcases e4 : f_r_locate b1 a0 h with _ | r3
  · rw [e4] at hf; cases hf
  rw [e4] at hf; dsimp only at hf
  refine r_callv rfl xvX8_locate xm11_368 (kf_r_locate (d := d) L0 e4) (LY.lt L0 (by decide)) (LY.k1255 L0) (by decide) rfl rfl (by omega) (by decide) (Nat.le_of_ble_eq_true rfl) ?_
  rintro _ _ ⟨⟨rfl, rfl⟩, L5⟩
  refine r_if_ne (tgt := 17) rfl rfl (fun qc6 => ?_) (fun qc6 => ?_)
  · rw [if_pos qc6] at hf
    refine XS.go (s_aloadn rfl rfl rfl) ?_
    refine XS.go (s_getr rfl xf11_53 (LY.lt L5 (by decide)) (LY.k0 L5) (by decide) rfl (LY.r0_7 L5)) ?_
    refine XS.go (s_getie rfl xf11_372 (LY.lt L5 (by decide)) (LY.k1255 L5) (by decide) rfl rfl) ?_
    refine XS.go (s_iconst (v := (-1)) rfl rfl) ?_
    refine r_icmp_ne (tgt := 32) rfl rfl (fun qc7 => ?_) (fun qc7 => ?_)
    · rw [if_pos qc7] at hf
      refine XS.go (s_iconst (v := 1) rfl rfl) ?_
      cases hf
      exact XR.reti rfl rfl (fun hret => ⟨_, hret, ⟨rfl, rfl⟩, L5⟩)
    · rw [if_neg qc7] at hf
      refine XS.go (s_iconst (v := 0) rfl rfl) ?_
      refine XS.go (s_goto (tgt := 33) rfl rfl) ?_
      cases hf
      exact XR.reti rfl rfl (fun hret => ⟨_, hret, ⟨rfl, rfl⟩, L5⟩)
  · rw [if_neg qc6] at hf
    refine XS.go (s_iconst (v := (-1)) rfl rfl) ?_
    cases hf
    exact XR.reti rfl rfl (fun hret => ⟨_, hret, ⟨rfl, rfl⟩, L5⟩)
def f_t_into (a0 : Int32) (h : XH) : Option (Int32 × XH) := (match hr h 0 4 with | none => none | some b1 => (match f_r_locate b1 a0 h with | none => none | some r3 => (if r3.1 = 0 then (some ((-1), r3.2)) else (if ¬ (hi r3.2 1255 8) = (-1) then (match f_r_enterPart r3.2 with | none => none | some r8 => (some (r8.1, r8.2))) else (some ((-1), r3.2))))))
set_option maxRecDepth 20000 in
theorem kf_t_into {l : Launch} {G : XG} {d : Nat} {a0 : Int32} {h : XH} {r : Int32 × XH} (L0 : LY h) (hf : f_t_into a0 h = some r) : XC l G xEX11_into (d + 6) [.ref 0, .int a0] h (fun v h2 => (h2 = r.2 ∧ v = some (.int r.1)) ∧ LY r.2) := by
  refine XC.virt xvX11_into (Nat.le_of_ble_eq_true rfl) ?_
  unfold f_t_into at hf
  refine XS.go (s_aloadn rfl rfl rfl) ?_
  refine XS.go (s_getr rfl xf11_53 (LY.lt L0 (by decide)) (LY.k0 L0) (by decide) rfl (LY.r0_7 L0)) ?_
  refine XS.go (s_aloadn rfl rfl rfl) ?_
  rcases qr2 : hr h 0 4 with _ | b1
  · rw [qr2] at hf; cases hf
  rw [qr2] at hf; dsimp only at hf
  refine XS.go (s_getr rfl xf11_36 (LY.lt L0 (by decide)) (LY.k0 L0) (by decide) rfl qr2) ?_
  refine XS.go (s_iloadn rfl rfl rfl) ?_
  rcases e4 : f_r_locate b1 a0 h with _ | r3
  · rw [e4] at hf; cases hf
  rw [e4] at hf; dsimp only at hf
  refine r_callv rfl xvX8_locate xm11_368 (kf_r_locate (d := d) L0 e4) (LY.lt L0 (by decide)) (LY.k1255 L0) (by decide) rfl rfl (by omega) (by decide) (Nat.le_of_ble_eq_true rfl) ?_
  rintro _ _ ⟨⟨rfl, rfl⟩, L5⟩
  refine r_if_eq (tgt := 26) rfl rfl (fun qc6 => ?_) (fun qc6 => ?_)
  · rw [if_pos qc6] at hf
    refine XS.go (s_iconst (v := (-1)) rfl rfl) ?_
    cases hf
    exact XR.reti rfl rfl (fun hret => ⟨_, hret, ⟨rfl, rfl⟩, L5⟩)
  · rw [if_neg qc6] at hf
    refine XS.go (s_aloadn rfl rfl rfl) ?_
    refine XS.go (s_getr rfl xf11_53 (LY.lt L5 (by decide)) (LY.k0 L5) (by decide) rfl (LY.r0_7 L5)) ?_
    refine XS.go (s_getie rfl xf11_372 (LY.lt L5 (by decide)) (LY.k1255 L5) (by decide) rfl rfl) ?_
    refine XS.go (s_iconst (v := (-1)) rfl rfl) ?_
    refine r_icmp_ne (tgt := 28) rfl rfl (fun qc7 => ?_) (fun qc7 => ?_)
    · rw [if_pos qc7] at hf
      refine XS.go (s_aloadn rfl rfl rfl) ?_
      refine XS.go (s_getr rfl xf11_53 (LY.lt L5 (by decide)) (LY.k0 L5) (by decide) rfl (LY.r0_7 L5)) ?_
      rcases e9 : f_r_enterPart r3.2 with _ | r8
      · rw [e9] at hf; cases hf
      rw [e9] at hf; dsimp only at hf
      refine r_callv rfl xvX8_enterPart xm11_384 (kf_r_enterPart (d := d) L5 e9) (LY.lt L5 (by decide)) (LY.k1255 L5) (by decide) rfl rfl (by omega) (by decide) (Nat.le_of_ble_eq_true rfl) ?_
      rintro _ _ ⟨⟨rfl, rfl⟩, L10⟩
      cases hf
      exact XR.reti rfl rfl (fun hret => ⟨_, hret, ⟨rfl, rfl⟩, L10⟩)
    · rw [if_neg qc7] at hf
      refine XS.go (s_iconst (v := (-1)) rfl rfl) ?_
      cases hf
      exact XR.reti rfl rfl (fun hret => ⟨_, hret, ⟨rfl, rfl⟩, L5⟩)
def f_t_up (h : XH) : Option (Int32 × XH) := (match f_r_leave h with | none => none | some r1 => (some (r1.1, r1.2)))
set_option maxRecDepth 20000 in
theorem kf_t_up {l : Launch} {G : XG} {d : Nat} {h : XH} {r : Int32 × XH} (L0 : LY h) (hf : f_t_up h = some r) : XC l G xEX11_up (d + 3) [.ref 0] h (fun v h2 => (h2 = r.2 ∧ v = some (.int r.1)) ∧ LY r.2) := by
  refine XC.virt xvX11_up (Nat.le_of_ble_eq_true rfl) ?_
  unfold f_t_up at hf
  refine XS.go (s_aloadn rfl rfl rfl) ?_
  refine XS.go (s_getr rfl xf11_53 (LY.lt L0 (by decide)) (LY.k0 L0) (by decide) rfl (LY.r0_7 L0)) ?_
  rcases e2 : f_r_leave h with _ | r1
  · rw [e2] at hf; cases hf
  rw [e2] at hf; dsimp only at hf
  refine r_callv rfl xvX8_leave xm11_387 (kf_r_leave (d := d) L0 e2) (LY.lt L0 (by decide)) (LY.k1255 L0) (by decide) rfl rfl (by omega) (by decide) (Nat.le_of_ble_eq_true rfl) ?_
  rintro _ _ ⟨⟨rfl, rfl⟩, L3⟩
  cases hf
  exact XR.reti rfl rfl (fun hret => ⟨_, hret, ⟨rfl, rfl⟩, L3⟩)
def f_t_write (a0 : Int32) (a1 : Int64) (h : XH) : Option (Int32 × XH) := (match hr h 0 4 with | none => none | some b1 => (match f_r_locate b1 a0 h with | none => none | some r3 => (if r3.1 = 0 then (some (0, r3.2)) else (if ¬ (hi r3.2 1255 6) = 0 then (some (0, r3.2)) else (if (hi r3.2 1255 8) = (-1) then (some (0, r3.2)) else (match f_t_isValue (hi r3.2 1255 7) a1 r3.2 with | none => none | some r9 => (if ¬ r9.1 = 0 then (match f_t_scalarBytes (hi r9.2 1255 7) r9.2 with | none => none | some r13 => (match f_b_number 1256 (hi r9.2 1255 8) r13.1 r13.2 with | none => none | some r16 => (match f_b_putNumber 1256 (hi r9.2 1255 8) r13.1 a1 r16.2 with | none => none | some r19 => (if hz r19.2 < 1000000 then (match hr (hnew r19.2 5 6) 0 4 with | none => none | some b24 => (if (hz r19.2) < hz (hnew r19.2 5 6) ∧ hk (hnew r19.2 5 6) (hz r19.2) = 5 then (match f_j_init (hz r19.2) b24 1256 (hi (hnew r19.2 5 6) 1256 1) (hnew r19.2 5 6) with | none => none | some r27 => (if (hz r19.2) < hz r27.2 ∧ hk r27.2 (hz r19.2) = 5 then (match f_j_accepts (hz r19.2) r27.2 with | none => none | some r31 => (if ¬ r31.1 = 0 then (match hr r31.2 0 4 with | none => none | some b35 => (if b35 < hz r31.2 ∧ hk r31.2 b35 = 9 then (match f_r_goToRoot (hi r31.2 b35 5) r31.2 with | none => none | some r38 => (some (1, r38.2))) else none)) else (match f_b_putNumber 1256 (hi r9.2 1255 8) r13.1 r16.1 r31.2 with | none => none | some r41 => (some (0, r41.2))))) else none)) else none)) else none)))) else (some (0, r9.2)))))))))
set_option maxRecDepth 20000 in
theorem kf_t_write {l : Launch} {G : XG} {d : Nat} {a0 : Int32} {a1 : Int64} {h : XH} {r : Int32 × XH} (L0 : LY h) (hf : f_t_write a0 a1 h = some r) : XC l G xEX11_write (d + 202) [.ref 0, .int a0, .long a1] h (fun v h2 => (h2 = r.2 ∧ v = some (.int r.1)) ∧ LY r.2) := by
  refine XC.virt xvX11_write (Nat.le_of_ble_eq_true rfl) ?_
  unfold f_t_write at hf
  refine XS.go (s_aloadn rfl rfl rfl) ?_
  refine XS.go (s_getr rfl xf11_53 (LY.lt L0 (by decide)) (LY.k0 L0) (by decide) rfl (LY.r0_7 L0)) ?_
  refine XS.go (s_aloadn rfl rfl rfl) ?_
  rcases qr2 : hr h 0 4 with _ | b1
  · rw [qr2] at hf; cases hf
  rw [qr2] at hf; dsimp only at hf
  refine XS.go (s_getr rfl xf11_36 (LY.lt L0 (by decide)) (LY.k0 L0) (by decide) rfl qr2) ?_
  refine XS.go (s_iloadn rfl rfl rfl) ?_
  rcases e4 : f_r_locate b1 a0 h with _ | r3
  · rw [e4] at hf; cases hf
  rw [e4] at hf; dsimp only at hf
  refine r_callv rfl xvX8_locate xm11_368 (kf_r_locate (d := d) L0 e4) (LY.lt L0 (by decide)) (LY.k1255 L0) (by decide) rfl rfl (by omega) (by decide) (Nat.le_of_ble_eq_true rfl) ?_
  rintro _ _ ⟨⟨rfl, rfl⟩, L5⟩
  refine r_if_eq (tgt := 50) rfl rfl (fun qc6 => ?_) (fun qc6 => ?_)
  · rw [if_pos qc6] at hf
    refine XS.go (s_iconst (v := 0) rfl rfl) ?_
    cases hf
    exact XR.retz rfl rfl (by decide) (fun hret => ⟨_, hret, ⟨rfl, rfl⟩, L5⟩)
  · rw [if_neg qc6] at hf
    refine XS.go (s_aloadn rfl rfl rfl) ?_
    refine XS.go (s_getr rfl xf11_53 (LY.lt L5 (by decide)) (LY.k0 L5) (by decide) rfl (LY.r0_7 L5)) ?_
    refine XS.go (s_getie rfl xf11_390 (LY.lt L5 (by decide)) (LY.k1255 L5) (by decide) rfl rfl) ?_
    refine r_if_ne (tgt := 50) rfl rfl (fun qc7 => ?_) (fun qc7 => ?_)
    · rw [if_pos qc7] at hf
      refine XS.go (s_iconst (v := 0) rfl rfl) ?_
      cases hf
      exact XR.retz rfl rfl (by decide) (fun hret => ⟨_, hret, ⟨rfl, rfl⟩, L5⟩)
    · rw [if_neg qc7] at hf
      refine XS.go (s_aloadn rfl rfl rfl) ?_
      refine XS.go (s_getr rfl xf11_53 (LY.lt L5 (by decide)) (LY.k0 L5) (by decide) rfl (LY.r0_7 L5)) ?_
      refine XS.go (s_getie rfl xf11_372 (LY.lt L5 (by decide)) (LY.k1255 L5) (by decide) rfl rfl) ?_
      refine XS.go (s_iconst (v := (-1)) rfl rfl) ?_
      refine r_icmp_eq (tgt := 50) rfl rfl (fun qc8 => ?_) (fun qc8 => ?_)
      · rw [if_pos qc8] at hf
        refine XS.go (s_iconst (v := 0) rfl rfl) ?_
        cases hf
        exact XR.retz rfl rfl (by decide) (fun hret => ⟨_, hret, ⟨rfl, rfl⟩, L5⟩)
      · rw [if_neg qc8] at hf
        refine XS.go (s_aloadn rfl rfl rfl) ?_
        refine XS.go (s_getr rfl xf11_53 (LY.lt L5 (by decide)) (LY.k0 L5) (by decide) rfl (LY.r0_7 L5)) ?_
        refine XS.go (s_getie rfl xf11_393 (LY.lt L5 (by decide)) (LY.k1255 L5) (by decide) rfl rfl) ?_
        refine XS.go (s_lloadn rfl rfl rfl) ?_
        rcases e10 : f_t_isValue (hi r3.2 1255 7) a1 r3.2 with _ | r9
        · rw [e10] at hf; cases hf
        rw [e10] at hf; dsimp only at hf
        refine r_calls rfl xsX11_isValue xm11_264 (kf_t_isValue (d := d) L5 e10) rfl rfl (by omega) (by decide) (Nat.le_of_ble_eq_true rfl) ?_
        rintro _ _ ⟨⟨rfl, rfl⟩, L11⟩
        refine r_if_ne (tgt := 52) rfl rfl (fun qc12 => ?_) (fun qc12 => ?_)
        · rw [if_pos qc12] at hf
          refine XS.go (s_aloadn rfl rfl rfl) ?_
          refine XS.go (s_getr rfl xf11_53 (LY.lt L11 (by decide)) (LY.k0 L11) (by decide) rfl (LY.r0_7 L11)) ?_
          refine XS.go (s_getr rfl xf11_339 (LY.lt L11 (by decide)) (LY.k1255 L11) (by decide) rfl (LY.r1255_0 L11)) ?_
          refine XS.go (s_astore rfl (Nat.le_of_ble_eq_true rfl)) ?_
          refine XS.go (s_aloadn rfl rfl rfl) ?_
          refine XS.go (s_getr rfl xf11_53 (LY.lt L11 (by decide)) (LY.k0 L11) (by decide) rfl (LY.r0_7 L11)) ?_
          refine XS.go (s_getie rfl xf11_372 (LY.lt L11 (by decide)) (LY.k1255 L11) (by decide) rfl rfl) ?_
          refine XS.go (s_istore rfl (Nat.le_of_ble_eq_true rfl)) ?_
          refine XS.go (s_aloadn rfl rfl rfl) ?_
          refine XS.go (s_getr rfl xf11_53 (LY.lt L11 (by decide)) (LY.k0 L11) (by decide) rfl (LY.r0_7 L11)) ?_
          refine XS.go (s_getie rfl xf11_393 (LY.lt L11 (by decide)) (LY.k1255 L11) (by decide) rfl rfl) ?_
          rcases e14 : f_t_scalarBytes (hi r9.2 1255 7) r9.2 with _ | r13
          · rw [e14] at hf; cases hf
          rw [e14] at hf; dsimp only at hf
          refine r_calls rfl xsX11_scalarBytes xm11_396 (kf_t_scalarBytes (d := d) L11 e14) rfl rfl (by omega) (by decide) (Nat.le_of_ble_eq_true rfl) ?_
          rintro _ _ ⟨⟨rfl, rfl⟩, L15⟩
          refine XS.go (s_istore rfl (Nat.le_of_ble_eq_true rfl)) ?_
          refine XS.go (s_aload rfl rfl) ?_
          refine XS.go (s_iload rfl rfl) ?_
          refine XS.go (s_iload rfl rfl) ?_
          rcases e17 : f_b_number 1256 (hi r9.2 1255 8) r13.1 r13.2 with _ | r16
          · rw [e17] at hf; cases hf
          rw [e17] at hf; dsimp only at hf
          refine r_callv rfl xvX1_number xm11_399 (kf_b_number (d := d) L15 e17) (LY.lt L15 (by decide)) (LY.k1256 L15) (by decide) rfl rfl (by omega) (by decide) (Nat.le_of_ble_eq_true rfl) ?_
          rintro _ _ ⟨⟨rfl, rfl⟩, L18⟩
          refine XS.go (s_lstore rfl (Nat.le_of_ble_eq_true rfl)) ?_
          refine XS.go (s_aload rfl rfl) ?_
          refine XS.go (s_iload rfl rfl) ?_
          refine XS.go (s_iload rfl rfl) ?_
          refine XS.go (s_lloadn rfl rfl rfl) ?_
          rcases e20 : f_b_putNumber 1256 (hi r9.2 1255 8) r13.1 a1 r16.2 with _ | r19
          · rw [e20] at hf; cases hf
          rw [e20] at hf; dsimp only at hf
          refine r_callv rfl xvX1_putNumber xm11_401 (kf_b_putNumber (d := d) L18 e20) (LY.lt L18 (by decide)) (LY.k1256 L18) (by decide) rfl rfl (by omega) (by decide) (Nat.le_of_ble_eq_true rfl) ?_
          rintro _ _ ⟨⟨rfl, rfl⟩, L21⟩
          by_cases qk22 : hz r19.2 < 1000000
          rotate_left
          · rw [if_neg qk22] at hf; cases hf
          rw [if_pos qk22] at hf
          have L23 : LY (hnew r19.2 5 6) := LY.new L21 qk22
          refine XS.go (s_new (ci := 5) rfl (lg_3 175 rfl rfl) (by decide) rfl qk22) ?_
          refine XS.go (s_dup rfl rfl) ?_
          refine XS.go (s_aloadn rfl rfl rfl) ?_
          rcases qr25 : hr (hnew r19.2 5 6) 0 4 with _ | b24
          · rw [qr25] at hf; cases hf
          rw [qr25] at hf; dsimp only at hf
          refine XS.go (s_getr rfl xf11_36 (LY.lt L23 (by decide)) (LY.k0 L23) (by decide) rfl qr25) ?_
          refine XS.go (s_aload rfl rfl) ?_
          refine XS.go (s_aload rfl rfl) ?_
          refine XS.go (s_getie rfl xf11_73 (LY.lt L23 (by decide)) (LY.k1256 L23) (by decide) rfl rfl) ?_
          by_cases qk26 : (hz r19.2) < hz (hnew r19.2 5 6) ∧ hk (hnew r19.2 5 6) (hz r19.2) = 5
          rotate_left
          · rw [if_neg qk26] at hf; cases hf
          rw [if_pos qk26] at hf
          rcases e28 : f_j_init (hz r19.2) b24 1256 (hi (hnew r19.2 5 6) 1256 1) (hnew r19.2 5 6) with _ | r27
          · rw [e28] at hf; cases hf
          rw [e28] at hf; dsimp only at hf
          refine r_calli rfl xnX5_init rfl xm11_351 (kf_j_init (d := d) L23 e28) rfl rfl (by omega) (by decide) (Nat.le_of_ble_eq_true rfl) ?_
          rintro _ _ ⟨⟨rfl, rfl⟩, L29⟩
          refine XS.go (s_astore rfl (Nat.le_of_ble_eq_true rfl)) ?_
          refine XS.go (s_aload rfl rfl) ?_
          by_cases qk30 : (hz r19.2) < hz r27.2 ∧ hk r27.2 (hz r19.2) = 5
          rotate_left
          · rw [if_neg qk30] at hf; cases hf
          rw [if_pos qk30] at hf
          rcases e32 : f_j_accepts (hz r19.2) r27.2 with _ | r31
          · rw [e32] at hf; cases hf
          rw [e32] at hf; dsimp only at hf
          refine r_callv rfl xvX5_accepts xm11_354 (kf_j_accepts (d := d) L29 e32) qk30.1 qk30.2 (by decide) rfl rfl (by omega) (by decide) (Nat.le_of_ble_eq_true rfl) ?_
          rintro _ _ ⟨⟨rfl, rfl⟩, L33⟩
          refine r_if_ne (tgt := 144) rfl rfl (fun qc34 => ?_) (fun qc34 => ?_)
          · rw [if_pos qc34] at hf
            refine XS.go (s_aloadn rfl rfl rfl) ?_
            refine XS.go (s_getr rfl xf11_53 (LY.lt L33 (by decide)) (LY.k0 L33) (by decide) rfl (LY.r0_7 L33)) ?_
            refine XS.go (s_aloadn rfl rfl rfl) ?_
            rcases qr36 : hr r31.2 0 4 with _ | b35
            · rw [qr36] at hf; cases hf
            rw [qr36] at hf; dsimp only at hf
            refine XS.go (s_getr rfl xf11_36 (LY.lt L33 (by decide)) (LY.k0 L33) (by decide) rfl qr36) ?_
            by_cases qk37 : b35 < hz r31.2 ∧ hk r31.2 b35 = 9
            rotate_left
            · rw [if_neg qk37] at hf; cases hf
            rw [if_pos qk37] at hf
            refine XS.go (s_getie rfl xf11_131 qk37.1 qk37.2 (by decide) rfl rfl) ?_
            rcases e39 : f_r_goToRoot (hi r31.2 b35 5) r31.2 with _ | r38
            · rw [e39] at hf; cases hf
            rw [e39] at hf; dsimp only at hf
            refine r_callv rfl xvX8_goToRoot xm11_405 (kf_r_goToRoot (d := d) L33 e39) (LY.lt L33 (by decide)) (LY.k1255 L33) (by decide) rfl rfl (by omega) (by decide) (Nat.le_of_ble_eq_true rfl) ?_
            rintro _ _ ⟨⟨rfl, rfl⟩, L40⟩
            refine XS.go (s_iconst (v := 1) rfl rfl) ?_
            cases hf
            exact XR.retz rfl rfl (by decide) (fun hret => ⟨_, hret, ⟨rfl, rfl⟩, L40⟩)
          · rw [if_neg qc34] at hf
            refine XS.go (s_aload rfl rfl) ?_
            refine XS.go (s_iload rfl rfl) ?_
            refine XS.go (s_iload rfl rfl) ?_
            refine XS.go (s_lload rfl rfl) ?_
            rcases e42 : f_b_putNumber 1256 (hi r9.2 1255 8) r13.1 r16.1 r31.2 with _ | r41
            · rw [e42] at hf; cases hf
            rw [e42] at hf; dsimp only at hf
            refine r_callv rfl xvX1_putNumber xm11_401 (kf_b_putNumber (d := d) L33 e42) (LY.lt L33 (by decide)) (LY.k1256 L33) (by decide) rfl rfl (by omega) (by decide) (Nat.le_of_ble_eq_true rfl) ?_
            rintro _ _ ⟨⟨rfl, rfl⟩, L43⟩
            refine XS.go (s_iconst (v := 0) rfl rfl) ?_
            cases hf
            exact XR.retz rfl rfl (by decide) (fun hret => ⟨_, hret, ⟨rfl, rfl⟩, L43⟩)
        · rw [if_neg qc12] at hf
          refine XS.go (s_iconst (v := 0) rfl rfl) ?_
          cases hf
          exact XR.retz rfl rfl (by decide) (fun hret => ⟨_, hret, ⟨rfl, rfl⟩, L11⟩)
def f_t_byteAt (a0 : Int32) (h : XH) : Option (Int32 × XH) := (match f_b_octetOrNone 1256 a0 h with | none => none | some r1 => (some (r1.1, r1.2)))
set_option maxRecDepth 20000 in
theorem kf_t_byteAt {l : Launch} {G : XG} {d : Nat} {a0 : Int32} {h : XH} {r : Int32 × XH} (L0 : LY h) (hf : f_t_byteAt a0 h = some r) : XC l G xEX11_byteAt (d + 2) [.ref 0, .int a0] h (fun v h2 => (h2 = r.2 ∧ v = some (.int r.1)) ∧ LY r.2) := by
  refine XC.virt xvX11_byteAt (Nat.le_of_ble_eq_true rfl) ?_
  unfold f_t_byteAt at hf
  refine XS.go (s_aloadn rfl rfl rfl) ?_
  refine XS.go (s_getr rfl xf11_53 (LY.lt L0 (by decide)) (LY.k0 L0) (by decide) rfl (LY.r0_7 L0)) ?_
  refine XS.go (s_getr rfl xf11_339 (LY.lt L0 (by decide)) (LY.k1255 L0) (by decide) rfl (LY.r1255_0 L0)) ?_
  refine XS.go (s_iloadn rfl rfl rfl) ?_
  rcases e2 : f_b_octetOrNone 1256 a0 h with _ | r1
  · rw [e2] at hf; cases hf
  rw [e2] at hf; dsimp only at hf
  refine r_callv rfl xvX1_octetOrNone xm11_332 (kf_b_octetOrNone (d := d) L0 e2) (LY.lt L0 (by decide)) (LY.k1256 L0) (by decide) rfl rfl (by omega) (by decide) (Nat.le_of_ble_eq_true rfl) ?_
  rintro _ _ ⟨⟨rfl, rfl⟩, L3⟩
  cases hf
  exact XR.reti rfl rfl (fun hret => ⟨_, hret, ⟨rfl, rfl⟩, L3⟩)
