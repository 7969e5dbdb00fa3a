/-! Methods as functions of the heap -/
def b_d_addLeavesOf_2 : Nat → Nat → Nat → Int32 → Int32 → XH → Option (Unit × XH)
  | 0, _, _, _, _, _ => none
  | n + 1, x0, x1, x2, x3, h => (if x1 < hz h ∧ hk h x1 = 2 then (if (hi h x1 11) ≤ x3 then (some ((), h)) else (match f_d_leafScalar x1 x3 h with | none => none | some r3 => (if x1 < hz r3.2 ∧ hk r3.2 x1 = 2 then (match f_d_leafPlace x1 x3 r3.2 with | none => none | some r7 => (if x0 < hz r7.2 ∧ hk r7.2 x0 = 2 then (match f_d_addLeaf x0 r3.1 (x2 + r7.1) r7.2 with | none => none | some r11 => (b_d_addLeavesOf_2 n x0 x1 x2 (x3 + 1) r11.2)) else none)) else none))) else none)
set_option maxRecDepth 20000 in
theorem kb_d_addLeavesOf_2 {l : Launch} {G : XG} {d : Nat} {n : Nat} {x0 : Nat} {x1 : Nat} {x2 : Int32} {x3 : Int32} {h : XH} {r : Unit × XH} (L0 : LY h) (hf : b_d_addLeavesOf_2 n x0 x1 x2 x3 h = some r) : XR l G xEX2_addLeavesOf (d + 1) (2, [some (.ref x0), some (.ref x1), some (.int x2), some (.int x3)], [], h) (fun C => ∃ v, xRet xEX2_addLeavesOf C v ∧ (C.2.2.2 = r.2 ∧ v = none) ∧ LY r.2) := by
  induction n generalizing x0 x1 x2 x3 h with
  | zero => cases hf
  | succ n ih =>
    replace ih : ∀ (x0 : Nat) (x1 : Nat) (x2 : Int32) (x3 : Int32) (h : XH), LY h → b_d_addLeavesOf_2 n x0 x1 x2 x3 h = some r → XR l G xEX2_addLeavesOf (d + 1) (2, [some (.ref x0), some (.ref x1), some (.int x2), some (.int x3)], [], h) (fun C => ∃ v, xRet xEX2_addLeavesOf C v ∧ (C.2.2.2 = r.2 ∧ v = none) ∧ LY r.2) := fun x0 x1 x2 x3 h L0 hf => ih (h := h) (x0 := x0) (x1 := x1) (x2 := x2) (x3 := x3) L0 hf
    rw [b_d_addLeavesOf_2] at hf
    refine XS.go (s_iloadn rfl rfl rfl) ?_
    refine XS.go (s_aloadn rfl rfl rfl) ?_
    by_cases qk1 : x1 < hz h ∧ hk h x1 = 2
    rotate_left
    · rw [if_neg qk1] at hf; cases hf
    rw [if_pos qk1] at hf
    refine XS.go (s_getie rfl xf2_31 qk1.1 qk1.2 (by decide) rfl rfl) ?_
    refine r_icmp_ge (tgt := 32) rfl rfl (fun qc2 => ?_) (fun qc2 => ?_)
    · rw [if_pos qc2] at hf
      cases hf
      exact XR.retv rfl rfl (fun hret => ⟨_, hret, ⟨rfl, rfl⟩, L0⟩)
    · rw [if_neg qc2] at hf
      refine XS.go (s_aloadn rfl rfl rfl) ?_
      refine XS.go (s_aloadn rfl rfl rfl) ?_
      refine XS.go (s_iloadn rfl rfl rfl) ?_
      rcases e4 : f_d_leafScalar x1 x3 h with _ | r3
      · rw [e4] at hf; cases hf
      rw [e4] at hf; dsimp only at hf
      refine r_callv rfl xvX2_leafScalar xm2_60 (kf_d_leafScalar (d := d) L0 e4) qk1.1 qk1.2 (by decide) rfl rfl (by omega) (by decide) (Nat.le_of_ble_eq_true rfl) ?_
      rintro _ _ ⟨⟨rfl, rfl⟩, L5⟩
      refine XS.go (s_iloadn rfl rfl rfl) ?_
      refine XS.go (s_aloadn rfl rfl rfl) ?_
      refine XS.go (s_iloadn rfl rfl rfl) ?_
      by_cases qk6 : x1 < hz r3.2 ∧ hk r3.2 x1 = 2
      rotate_left
      · rw [if_neg qk6] at hf; cases hf
      rw [if_pos qk6] at hf
      rcases e8 : f_d_leafPlace x1 x3 r3.2 with _ | r7
      · rw [e8] at hf; cases hf
      rw [e8] at hf; dsimp only at hf
      refine r_callv rfl xvX2_leafPlace xm2_64 (kf_d_leafPlace (d := d) L5 e8) qk6.1 qk6.2 (by decide) rfl rfl (by omega) (by decide) (Nat.le_of_ble_eq_true rfl) ?_
      rintro _ _ ⟨⟨rfl, rfl⟩, L9⟩
      refine XS.go (s_iadd rfl) ?_
      by_cases qk10 : x0 < hz r7.2 ∧ hk r7.2 x0 = 2
      rotate_left
      · rw [if_neg qk10] at hf; cases hf
      rw [if_pos qk10] at hf
      rcases e12 : f_d_addLeaf x0 r3.1 (x2 + r7.1) r7.2 with _ | r11
      · rw [e12] at hf; cases hf
      rw [e12] at hf; dsimp only at hf
      refine r_callv rfl xvX2_addLeaf xm2_67 (kf_d_addLeaf (d := d) L9 e12) qk10.1 qk10.2 (by decide) rfl rfl (by omega) (by decide) (Nat.le_of_ble_eq_true rfl) ?_
      rintro _ _ ⟨⟨rfl, rfl⟩, L13⟩
      refine XS.go (s_inc rfl rfl (Nat.le_of_ble_eq_true rfl)) ?_
      refine XS.go (s_goto (tgt := 2) rfl rfl) ?_
      exact XR.forget (L2 := [some (.ref x0), some (.ref x1), some (.int x2), some (.int (x3 + 1))]) ⟨rfl, ⟨rfl, ⟨rfl, ⟨rfl, trivial⟩⟩⟩⟩ (ih x0 x1 x2 (x3 + 1) _ L13 hf)
def f_d_addLeavesOf (t : Nat) (a0 : Nat) (a1 : Int32) (h : XH) : Option (Unit × XH) := (b_d_addLeavesOf_2 100000 t a0 a1 0 h)
set_option maxRecDepth 20000 in
theorem kf_d_addLeavesOf {l : Launch} {G : XG} {d : Nat} {t : Nat} {a0 : Nat} {a1 : Int32} {h : XH} {r : Unit × XH} (L0 : LY h) (hf : f_d_addLeavesOf t a0 a1 h = some r) : XC l G xEX2_addLeavesOf (d + 1) [.ref t, .ref a0, .int a1] h (fun v h2 => (h2 = r.2 ∧ v = none) ∧ LY r.2) := by
  refine XC.virt xvX2_addLeavesOf (Nat.le_of_ble_eq_true rfl) ?_
  unfold f_d_addLeavesOf at hf
  refine XS.go (s_iconst (v := 0) rfl rfl) ?_
  refine XS.go (s_istoren rfl rfl (Nat.le_of_ble_eq_true rfl)) ?_
  exact XR.forget (L2 := [some (.ref t), some (.ref a0), some (.int a1), some (.int 0)]) ⟨rfl, ⟨rfl, ⟨rfl, ⟨rfl, trivial⟩⟩⟩⟩ (kb_d_addLeavesOf_2 L0 hf)
def b_d_numberSlots_60 (K7 : Nat → Int32 → XH → Option (Unit × XH)) (x0 : Nat) (x1 : Int32) (y0 : Nat) (y1 : Int32) (y2 : Int32) (h : XH) : Option (Unit × XH) := (if y0 < hz h ∧ hk h y0 = 2 then (K7 x0 (x1 + 1) (hsi h y0 8 (y1 + y2))) else none)
set_option maxRecDepth 20000 in
theorem kb_d_numberSlots_60 {l : Launch} {G : XG} {d : Nat} {K7 : Nat → Int32 → XH → Option (Unit × XH)} {x0 : Nat} {x1 : Int32} {y0 : Nat} {y1 : Int32} {y2 : Int32} {h : XH} {r : Unit × XH} (hK7 : ∀ (x0 : Nat) (x1 : Int32) (h : XH), LY h → K7 x0 x1 h = some r → XR l G xEX2_numberSlots d (7, [some (.ref x0), some (.int x1)], [], h) (fun C => ∃ v, xRet xEX2_numberSlots C v ∧ (C.2.2.2 = r.2 ∧ v = none) ∧ LY r.2)) (L0 : LY h) (hf : b_d_numberSlots_60 K7 x0 x1 y0 y1 y2 h = some r) : XR l G xEX2_numberSlots d (60, [some (.ref x0), some (.int x1)], [(.int y2), (.int y1), (.ref y0)], h) (fun C => ∃ v, xRet xEX2_numberSlots C v ∧ (C.2.2.2 = r.2 ∧ v = none) ∧ LY r.2) := by
  unfold b_d_numberSlots_60 at hf
  refine XS.go (s_iadd rfl) ?_
  by_cases qk1 : y0 < hz h ∧ hk h y0 = 2
  rotate_left
  · rw [if_neg qk1] at hf; cases hf
  rw [if_pos qk1] at hf
  refine XS.go (s_puti rfl xf2_28 qk1.1 qk1.2 (by decide) rfl (Or.inl rfl)) ?_
  refine XS.go (s_inc rfl rfl (Nat.le_of_ble_eq_true rfl)) ?_
  refine XS.go (s_goto (tgt := 7) rfl rfl) ?_
  exact XR.forget (L2 := [some (.ref x0), some (.int (x1 + 1))]) ⟨rfl, ⟨rfl, trivial⟩⟩ (hK7 x0 (x1 + 1) _ (by simp only [LY_si, LY_sj]; exact L0) hf)
def b_d_numberSlots_7 : Nat → Nat → Int32 → XH → Option (Unit × XH)
  | 0, _, _, _ => none
  | n + 1, x0, x1, h => (if x0 < hz h ∧ hk h x0 = 2 then (if (hi h x0 3) ≤ x1 then (some ((), h)) else (match hr h x0 2 with | none => none | some b4 => (if b4 < hz h ∧ hk h b4 = 104 then (if (nI (hn h b4)) ≤ x1 then (some ((), h)) else (match hr h x0 2 with | none => none | some b8 => (if b8 < hz h ∧ hk h b8 = 104 then (if 0 ≤ x1 ∧ x1 < nI (hn h b8) ∧ (hn h b8) < 2 ^ 31 then (match hr h b8 (Int32.toNatClampNeg x1) with | none => none | some b12 => (if b12 < hz h ∧ hk h b12 = 3 then (match hr h x0 2 with | none => none | some b15 => (if b15 < hz h ∧ hk h b15 = 104 then (if 0 ≤ x1 ∧ x1 < nI (hn h b15) ∧ (hn h b15) < 2 ^ 31 then (match hr h b15 (Int32.toNatClampNeg x1) with | none => none | some b19 => (if b19 < hz h ∧ hk h b19 = 3 then (if ¬ (hi h b19 3) = 4 then (b_d_numberSlots_60 (b_d_numberSlots_7 n) x0 x1 x0 (hi h x0 8) 1 (hsi h b12 6 (hi h x0 8))) else (b_d_numberSlots_60 (b_d_numberSlots_7 n) x0 x1 x0 (hi h x0 8) 2 (hsi h b12 6 (hi h x0 8)))) else none)) else none) else none)) else none)) else none) else none))) else none))) else none)
set_option maxRecDepth 20000 in
theorem kb_d_numberSlots_7 {l : Launch} {G : XG} {d : Nat} {n : Nat} {x0 : Nat} {x1 : Int32} {h : XH} {r : Unit × XH} (L0 : LY h) (hf : b_d_numberSlots_7 n x0 x1 h = some r) : XR l G xEX2_numberSlots d (7, [some (.ref x0), some (.int x1)], [], h) (fun C => ∃ v, xRet xEX2_numberSlots C v ∧ (C.2.2.2 = r.2 ∧ v = none) ∧ LY r.2) := by
  induction n generalizing x0 x1 h with
  | zero => cases hf
  | succ n ih =>
    replace ih : ∀ (x0 : Nat) (x1 : Int32) (h : XH), LY h → b_d_numberSlots_7 n x0 x1 h = some r → XR l G xEX2_numberSlots d (7, [some (.ref x0), some (.int x1)], [], h) (fun C => ∃ v, xRet xEX2_numberSlots C v ∧ (C.2.2.2 = r.2 ∧ v = none) ∧ LY r.2) := fun x0 x1 h L0 hf => ih (h := h) (x0 := x0) (x1 := x1) L0 hf
    rw [b_d_numberSlots_7] at hf
    refine XS.go (s_iloadn rfl rfl rfl) ?_
    refine XS.go (s_aloadn rfl rfl rfl) ?_
    by_cases qk2 : x0 < hz h ∧ hk h x0 = 2
    rotate_left
    · rw [if_neg qk2] at hf; cases hf
    rw [if_pos qk2] at hf
    refine XS.go (s_getie rfl xf2_9 qk2.1 qk2.2 (by decide) rfl rfl) ?_
    refine r_icmp_ge (tgt := 70) rfl rfl (fun qc3 => ?_) (fun qc3 => ?_)
    · rw [if_pos qc3] at hf
      cases hf
      exact XR.retv rfl rfl (fun hret => ⟨_, hret, ⟨rfl, rfl⟩, L0⟩)
    · rw [if_neg qc3] at hf
      refine XS.go (s_iloadn rfl rfl rfl) ?_
      refine XS.go (s_aloadn rfl rfl rfl) ?_
      rcases qr5 : hr h x0 2 with _ | b4
      · rw [qr5] at hf; cases hf
      rw [qr5] at hf; dsimp only at hf
      refine XS.go (s_getr rfl xf2_42 qk2.1 qk2.2 (by decide) rfl qr5) ?_
      by_cases qk6 : b4 < hz h ∧ hk h b4 = 104
      rotate_left
      · rw [if_neg qk6] at hf; cases hf
      rw [if_pos qk6] at hf
      refine XS.go (s_alene rfl qk6.1 qk6.2 rfl (by decide)) ?_
      refine r_icmp_ge (tgt := 70) rfl rfl (fun qc7 => ?_) (fun qc7 => ?_)
      · rw [if_pos qc7] at hf
        cases hf
        exact XR.retv rfl rfl (fun hret => ⟨_, hret, ⟨rfl, rfl⟩, L0⟩)
      · rw [if_neg qc7] at hf
        refine XS.go (s_aloadn rfl rfl rfl) ?_
        rcases qr9 : hr h x0 2 with _ | b8
        · rw [qr9] at hf; cases hf
        rw [qr9] at hf; dsimp only at hf
        refine XS.go (s_getr rfl xf2_42 qk2.1 qk2.2 (by decide) rfl qr9) ?_
        refine XS.go (s_iloadn rfl rfl rfl) ?_
        by_cases qk10 : b8 < hz h ∧ hk h b8 = 104
        rotate_left
        · rw [if_neg qk10] at hf; cases hf
        rw [if_pos qk10] at hf
        by_cases qk11 : 0 ≤ x1 ∧ x1 < nI (hn h b8) ∧ (hn h b8) < 2 ^ 31
        rotate_left
        · rw [if_neg qk11] at hf; cases hf
        rw [if_pos qk11] at hf
        rcases qr13 : hr h b8 (Int32.toNatClampNeg x1) with _ | b12
        · rw [qr13] at hf; cases hf
        rw [qr13] at hf; dsimp only at hf
        refine XS.go (s_aald104e rfl qk10.1 qk10.2 (inLit (N := hn h b8) rfl qk11.1 qk11.2.1 qk11.2.2) qr13) ?_
        refine XS.go (s_aloadn rfl rfl rfl) ?_
        refine XS.go (s_getie rfl xf2_28 qk2.1 qk2.2 (by decide) rfl rfl) ?_
        by_cases qk14 : b12 < hz h ∧ hk h b12 = 3
        rotate_left
        · rw [if_neg qk14] at hf; cases hf
        rw [if_pos qk14] at hf
        refine XS.go (s_puti rfl xf2_71 qk14.1 qk14.2 (by decide) rfl (Or.inl rfl)) ?_
        refine XS.go (s_aloadn rfl rfl rfl) ?_
        refine XS.go (s_dup rfl rfl) ?_
        refine XS.go (s_getie rfl xf2_28 (by simp only [hz_hsi, hk_hsi, hz_hsj, hk_hsj]; exact qk2.1) (by simp only [hz_hsi, hk_hsi, hz_hsj, hk_hsj]; exact qk2.2) (by decide) rfl (hi_hsi_nk (by decide))) ?_
        refine XS.go (s_aloadn rfl rfl rfl) ?_
        rcases qr16 : hr h x0 2 with _ | b15
        · rw [qr16] at hf; cases hf
        rw [qr16] at hf; dsimp only at hf
        refine XS.go (s_getr rfl xf2_42 (by simp only [hz_hsi, hk_hsi, hz_hsj, hk_hsj]; exact qk2.1) (by simp only [hz_hsi, hk_hsi, hz_hsj, hk_hsj]; exact qk2.2) (by decide) rfl (by simp only [hr_hsi, hr_hsj]; exact qr16)) ?_
        refine XS.go (s_iloadn rfl rfl rfl) ?_
        by_cases qk17 : b15 < hz h ∧ hk h b15 = 104
        rotate_left
        · rw [if_neg qk17] at hf; cases hf
        rw [if_pos qk17] at hf
        by_cases qk18 : 0 ≤ x1 ∧ x1 < nI (hn h b15) ∧ (hn h b15) < 2 ^ 31
        rotate_left
        · rw [if_neg qk18] at hf; cases hf
        rw [if_pos qk18] at hf
        rcases qr20 : hr h b15 (Int32.toNatClampNeg x1) with _ | b19
        · rw [qr20] at hf; cases hf
        rw [qr20] at hf; dsimp only at hf
        refine XS.go (s_aald104e rfl (by simp only [hz_hsi, hk_hsi, hz_hsj, hk_hsj]; exact qk17.1) (by simp only [hz_hsi, hk_hsi, hz_hsj, hk_hsj]; exact qk17.2) (inLit (N := hn h b15) (by simp only [hn_hsi, hn_hsj]) qk18.1 qk18.2.1 qk18.2.2) (by simp only [hr_hsi, hr_hsj]; exact qr20)) ?_
        by_cases qk21 : b19 < hz h ∧ hk h b19 = 3
        rotate_left
        · rw [if_neg qk21] at hf; cases hf
        rw [if_pos qk21] at hf
        refine XS.go (s_getie rfl xf2_74 (by simp only [hz_hsi, hk_hsi, hz_hsj, hk_hsj]; exact qk21.1) (by simp only [hz_hsi, hk_hsi, hz_hsj, hk_hsj]; exact qk21.2) (by decide) rfl (hi_hsi_nk (by decide))) ?_
        refine XS.go (s_iconst (v := 4) rfl rfl) ?_
        refine r_icmp_ne (tgt := 59) rfl rfl (fun qc22 => ?_) (fun qc22 => ?_)
        · rw [if_pos qc22] at hf
          refine XS.go (s_iconst (v := 1) rfl rfl) ?_
          exact XR.forget (L2 := [some (.ref x0), some (.int x1)]) ⟨rfl, ⟨rfl, trivial⟩⟩ (kb_d_numberSlots_60 ih (by simp only [LY_si, LY_sj]; exact L0) hf)
        · rw [if_neg qc22] at hf
          refine XS.go (s_iconst (v := 2) rfl rfl) ?_
          refine XS.go (s_goto (tgt := 60) rfl rfl) ?_
          exact XR.forget (L2 := [some (.ref x0), some (.int x1)]) ⟨rfl, ⟨rfl, trivial⟩⟩ (kb_d_numberSlots_60 ih (by simp only [LY_si, LY_sj]; exact L0) hf)
def f_d_numberSlots (t : Nat) (h : XH) : Option (Unit × XH) := (if t < hz h ∧ hk h t = 2 then (b_d_numberSlots_7 100000 t 0 (hsi h t 8 0)) else none)
set_option maxRecDepth 20000 in
theorem kf_d_numberSlots {l : Launch} {G : XG} {d : Nat} {t : Nat} {h : XH} {r : Unit × XH} (L0 : LY h) (hf : f_d_numberSlots t h = some r) : XC l G xEX2_numberSlots d [.ref t] h (fun v h2 => (h2 = r.2 ∧ v = none) ∧ LY r.2) := by
  refine XC.virt xvX2_numberSlots (Nat.le_of_ble_eq_true rfl) ?_
  unfold f_d_numberSlots at hf
  refine XS.go (s_aloadn rfl rfl rfl) ?_
  refine XS.go (s_iconst (v := 0) rfl rfl) ?_
  by_cases qk23 : t < hz h ∧ hk h t = 2
  rotate_left
  · rw [if_neg qk23] at hf; cases hf
  rw [if_pos qk23] at hf
  refine XS.go (s_puti rfl xf2_28 qk23.1 qk23.2 (by decide) rfl (Or.inl rfl)) ?_
  refine XS.go (s_iconst (v := 0) rfl rfl) ?_
  refine XS.go (s_istoren rfl rfl (Nat.le_of_ble_eq_true rfl)) ?_
  exact XR.forget (L2 := [some (.ref t), some (.int 0)]) ⟨rfl, ⟨rfl, trivial⟩⟩ (kb_d_numberSlots_7 (by simp only [LY_si, LY_sj]; exact L0) hf)
def b_g_add_19 (h : XH) : Option (Option Nat × XH) := (some (none, h))
set_option maxRecDepth 20000 in
theorem kb_g_add_19 {l : Launch} {G : XG} {d : Nat} {h : XH} {r : Option Nat × XH} (L0 : LY h) (hf : b_g_add_19 h = some r) : XR l G xEX4_add (d + 1) (19, [none, none, none, none, none, none], [], h) (fun C => ∃ v, xRet xEX4_add C v ∧ (C.2.2.2 = r.2 ∧ v = some (va_rf r.1)) ∧ LY r.2) := by
  unfold b_g_add_19 at hf
  refine XS.go (s_null rfl) ?_
  cases hf
  exact XR.reta (o := none) rfl rfl (fun hret => ⟨_, hret, ⟨rfl, rfl⟩, L0⟩)
def f_g_add (t : Nat) (a0 : Int64) (a1 : Int64) (h : XH) : Option (Option Nat × XH) := (if t < hz h ∧ hk h t = 4 then (if (hi h t 1) < 0 then (b_g_add_19 h) else (match hr h t 0 with | none => none | some b3 => (if b3 < hz h ∧ hk h b3 = 105 then (if (hi h t 1) < (nI (hn h b3)) then (match hr h t 0 with | none => none | some b7 => (if b7 < hz h ∧ hk h b7 = 105 then (if 0 ≤ (hi h t 1) ∧ (hi h t 1) < nI (hn h b7) ∧ (hn h b7) < 2 ^ 31 then (match hr h b7 (Int32.toNatClampNeg (hi h t 1)) with | none => none | some b11 => (if b11 < hz h ∧ hk h b11 = 2 then (match f_d_restart b11 a0 a1 h with | none => none | some r14 => (if t < hz r14.2 ∧ hk r14.2 t = 4 then (some (some b11, (hsi r14.2 t 1 ((hi r14.2 t 1) + 1)))) else none)) else none)) else none) else none)) else (b_g_add_19 h)) else none))) else none)
set_option maxRecDepth 20000 in
theorem kf_g_add {l : Launch} {G : XG} {d : Nat} {t : Nat} {a0 : Int64} {a1 : Int64} {h : XH} {r : Option Nat × XH} (L0 : LY h) (hf : f_g_add t a0 a1 h = some r) : XC l G xEX4_add (d + 1) [.ref t, .long a0, .long a1] h (fun v h2 => (h2 = r.2 ∧ v = some (va_rf r.1)) ∧ LY r.2) := by
  refine XC.virt xvX4_add (Nat.le_of_ble_eq_true rfl) ?_
  unfold f_g_add at hf
  refine XS.go (s_aloadn rfl rfl rfl) ?_
  by_cases qk1 : t < hz h ∧ hk h t = 4
  rotate_left
  · rw [if_neg qk1] at hf; cases hf
  rw [if_pos qk1] at hf
  refine XS.go (s_getie rfl xf4_7 qk1.1 qk1.2 (by decide) rfl rfl) ?_
  refine r_if_lt (tgt := 19) rfl rfl (fun qc2 => ?_) (fun qc2 => ?_)
  · rw [if_pos qc2] at hf
    exact XR.forget (L2 := [none, none, none, none, none, none]) trivial (kb_g_add_19 L0 hf)
  · rw [if_neg qc2] at hf
    refine XS.go (s_aloadn rfl rfl rfl) ?_
    refine XS.go (s_getie rfl xf4_7 qk1.1 qk1.2 (by decide) rfl rfl) ?_
    refine XS.go (s_aloadn rfl rfl rfl) ?_
    rcases qr4 : hr h t 0 with _ | b3
    · rw [qr4] at hf; cases hf
    rw [qr4] at hf; dsimp only at hf
    refine XS.go (s_getr rfl xf4_15 qk1.1 qk1.2 (by decide) rfl qr4) ?_
    by_cases qk5 : b3 < hz h ∧ hk h b3 = 105
    rotate_left
    · rw [if_neg qk5] at hf; cases hf
    rw [if_pos qk5] at hf
    refine XS.go (s_alene rfl qk5.1 qk5.2 rfl (by decide)) ?_
    refine r_icmp_lt (tgt := 21) rfl rfl (fun qc6 => ?_) (fun qc6 => ?_)
    · rw [if_pos qc6] at hf
      refine XS.go (s_aloadn rfl rfl rfl) ?_
      rcases qr8 : hr h t 0 with _ | b7
      · rw [qr8] at hf; cases hf
      rw [qr8] at hf; dsimp only at hf
      refine XS.go (s_getr rfl xf4_15 qk1.1 qk1.2 (by decide) rfl qr8) ?_
      refine XS.go (s_aloadn rfl rfl rfl) ?_
      refine XS.go (s_getie rfl xf4_7 qk1.1 qk1.2 (by decide) rfl rfl) ?_
      by_cases qk9 : b7 < hz h ∧ hk h b7 = 105
      rotate_left
      · rw [if_neg qk9] at hf; cases hf
      rw [if_pos qk9] at hf
      by_cases qk10 : 0 ≤ (hi h t 1) ∧ (hi h t 1) < nI (hn h b7) ∧ (hn h b7) < 2 ^ 31
      rotate_left
      · rw [if_neg qk10] at hf; cases hf
      rw [if_pos qk10] at hf
      rcases qr12 : hr h b7 (Int32.toNatClampNeg (hi h t 1)) with _ | b11
      · rw [qr12] at hf; cases hf
      rw [qr12] at hf; dsimp only at hf
      refine XS.go (s_aald105e rfl qk9.1 qk9.2 (inLit (N := hn h b7) rfl qk10.1 qk10.2.1 qk10.2.2) qr12) ?_
      refine XS.go (s_astore rfl (Nat.le_of_ble_eq_true rfl)) ?_
      refine XS.go (s_aload rfl rfl) ?_
      refine XS.go (s_lloadn rfl rfl rfl) ?_
      refine XS.go (s_lloadn rfl rfl rfl) ?_
      by_cases qk13 : b11 < hz h ∧ hk h b11 = 2
      rotate_left
      · rw [if_neg qk13] at hf; cases hf
      rw [if_pos qk13] at hf
      rcases e15 : f_d_restart b11 a0 a1 h with _ | r14
      · rw [e15] at hf; cases hf
      rw [e15] at hf; dsimp only at hf
      refine r_callv rfl xvX2_restart xm4_22 (kf_d_restart (d := d) L0 e15) qk13.1 qk13.2 (by decide) rfl rfl (by omega) (by decide) (Nat.le_of_ble_eq_true rfl) ?_
      rintro _ _ ⟨⟨rfl, rfl⟩, L16⟩
      refine XS.go (s_aloadn rfl rfl rfl) ?_
      refine XS.go (s_dup rfl rfl) ?_
      by_cases qk17 : t < hz r14.2 ∧ hk r14.2 t = 4
      rotate_left
      · rw [if_neg qk17] at hf; cases hf
      rw [if_pos qk17] at hf
      refine XS.go (s_getie rfl xf4_7 qk17.1 qk17.2 (by decide) rfl rfl) ?_
      refine XS.go (s_iconst (v := 1) rfl rfl) ?_
      refine XS.go (s_iadd rfl) ?_
      refine XS.go (s_puti rfl xf4_7 qk17.1 qk17.2 (by decide) rfl (Or.inl rfl)) ?_
      refine XS.go (s_aload rfl rfl) ?_
      cases hf
      exact XR.reta (o := (some b11)) rfl rfl (fun hret => ⟨_, hret, ⟨rfl, rfl⟩, (by simp only [LY_si, LY_sj]; exact L16)⟩)
    · rw [if_neg qc6] at hf
      exact XR.forget (L2 := [none, none, none, none, none, none]) trivial (kb_g_add_19 L0 hf)
def f_j_wrong (t : Nat) (a0 : Int32) (a1 : Int64) (h : XH) : Option (Int32 × XH) := (if t < hz h ∧ hk h t = 5 then (some (0, (hsi (hsi h t 4 a0) t 5 (Int64.toInt32 a1)))) else none)
set_option maxRecDepth 20000 in
theorem kf_j_wrong {l : Launch} {G : XG} {d : Nat} {t : Nat} {a0 : Int32} {a1 : Int64} {h : XH} {r : Int32 × XH} (L0 : LY h) (hf : f_j_wrong t a0 a1 h = some r) : XC l G xEX5_wrong d [.ref t, .int a0, .long a1] h (fun v h2 => (h2 = r.2 ∧ v = some (.int r.1)) ∧ LY r.2) := by
  refine XC.virt xvX5_wrong (Nat.le_of_ble_eq_true rfl) ?_
  unfold f_j_wrong at hf
  refine XS.go (s_aloadn rfl rfl rfl) ?_
  refine XS.go (s_iloadn rfl rfl rfl) ?_
  by_cases qk1 : t < hz h ∧ hk h t = 5
  rotate_left
  · rw [if_neg qk1] at hf; cases hf
  rw [if_pos qk1] at hf
  refine XS.go (s_puti rfl xf5_15 qk1.1 qk1.2 (by decide) rfl (Or.inl rfl)) ?_
  refine XS.go (s_aloadn rfl rfl rfl) ?_
  refine XS.go (s_lloadn rfl rfl rfl) ?_
  refine XS.go (s_l2i rfl) ?_
  refine XS.go (s_puti rfl xf5_18 (by simp only [hz_hsi, hk_hsi, hz_hsj, hk_hsj]; exact qk1.1) (by simp only [hz_hsi, hk_hsi, hz_hsj, hk_hsj]; exact qk1.2) (by decide) rfl (Or.inl rfl)) ?_
  refine XS.go (s_iconst (v := 0) rfl rfl) ?_
  cases hf
  exact XR.retz rfl rfl (by decide) (fun hret => ⟨_, hret, ⟨rfl, rfl⟩, (by simp only [LY_si, LY_sj]; exact L0)⟩)
def b_j_isReference_62 (h : XH) : Option (Int32 × XH) := (some (1, h))
set_option maxRecDepth 20000 in
theorem kb_j_isReference_62 {l : Launch} {G : XG} {d : Nat} {h : XH} {r : Int32 × XH} (L0 : LY h) (hf : b_j_isReference_62 h = some r) : XR l G xEX5_isReference (d + 1) (62, [none, none, none, none], [], h) (fun C => ∃ v, xRet xEX5_isReference C v ∧ (C.2.2.2 = r.2 ∧ v = some (.int r.1)) ∧ LY r.2) := by
  unfold b_j_isReference_62 at hf
  refine XS.go (s_iconst (v := 1) rfl rfl) ?_
  refine XS.go (s_goto (tgt := 67) rfl rfl) ?_
  cases hf
  exact XR.retz rfl rfl (by decide) (fun hret => ⟨_, hret, ⟨rfl, rfl⟩, L0⟩)
def b_j_isReference_34 (x0 : Nat) (x1 : Int32) (h : XH) : Option (Int32 × XH) := (if x0 < hz h ∧ hk h x0 = 5 then (match f_j_wrong x0 2 (Int32.toInt64 x1) h with | none => none | some r2 => (if r2.1 = 0 ∨ r2.1 = 1 then (some (r2.1, r2.2)) else none)) else none)
set_option maxRecDepth 20000 in
theorem kb_j_isReference_34 {l : Launch} {G : XG} {d : Nat} {x0 : Nat} {x1 : Int32} {h : XH} {r : Int32 × XH} (L0 : LY h) (hf : b_j_isReference_34 x0 x1 h = some r) : XR l G xEX5_isReference (d + 1) (34, [some (.ref x0), some (.int x1), none, none], [], h) (fun C => ∃ v, xRet xEX5_isReference C v ∧ (C.2.2.2 = r.2 ∧ v = some (.int r.1)) ∧ LY r.2) := by
  unfold b_j_isReference_34 at hf
  refine XS.go (s_aloadn rfl rfl rfl) ?_
  refine XS.go (s_iconst (v := 2) rfl rfl) ?_
  refine XS.go (s_iloadn rfl rfl rfl) ?_
  refine XS.go (s_i2l rfl) ?_
  by_cases qk1 : x0 < hz h ∧ hk h x0 = 5
  rotate_left
  · rw [if_neg qk1] at hf; cases hf
  rw [if_pos qk1] at hf
  rcases e3 : f_j_wrong x0 2 (Int32.toInt64 x1) h with _ | r2
  · rw [e3] at hf; cases hf
  rw [e3] at hf; dsimp only at hf
  refine r_callv rfl xvX5_wrong xm5_32 (kf_j_wrong (d := d) L0 e3) qk1.1 qk1.2 (by decide) rfl rfl (by omega) (by decide) (Nat.le_of_ble_eq_true rfl) ?_
  rintro _ _ ⟨⟨rfl, rfl⟩, L4⟩
  by_cases qk5 : r2.1 = 0 ∨ r2.1 = 1
  rotate_left
  · rw [if_neg qk5] at hf; cases hf
  rw [if_pos qk5] at hf
  cases hf
  exact XR.retz rfl rfl qk5 (fun hret => ⟨_, hret, ⟨rfl, rfl⟩, L4⟩)
def f_j_isReference (t : Nat) (a0 : Int32) (h : XH) : Option (Int32 × XH) := (if t < hz h ∧ hk h t = 5 then (match hr h t 1 with | none => none | some b7 => (if b7 < hz h ∧ hk h b7 = 1 then (match f_b_number b7 a0 4 h with | none => none | some r10 => (if (lg_cmp ((Int32.toInt64 a0) + r10.1) (Int32.toInt64 a0)) = 0 then (b_j_isReference_34 t a0 r10.2) else (if t < hz r10.2 ∧ hk r10.2 t = 5 then (if (lg_cmp (((Int32.toInt64 a0) + r10.1) + 4) (Int32.toInt64 (hi r10.2 t 2))) ≤ 0 then (if (lg_cmp (((Int32.toInt64 a0) + r10.1) &&& 3) 0) = 0 then (b_j_isReference_62 r10.2) else (match f_j_wrong t 3 (Int32.toInt64 a0) r10.2 with | none => none | some r17 => (if r17.1 = 0 then (some (0, r17.2)) else (b_j_isReference_62 r17.2)))) else (b_j_isReference_34 t a0 r10.2)) else none))) else none)) else none)
set_option maxRecDepth 20000 in
theorem kf_j_isReference {l : Launch} {G : XG} {d : Nat} {t : Nat} {a0 : Int32} {h : XH} {r : Int32 × XH} (L0 : LY h) (hf : f_j_isReference t a0 h = some r) : XC l G xEX5_isReference (d + 1) [.ref t, .int a0] h (fun v h2 => (h2 = r.2 ∧ v = some (.int r.1)) ∧ LY r.2) := by
  refine XC.virt xvX5_isReference (Nat.le_of_ble_eq_true rfl) ?_
  unfold f_j_isReference at hf
  refine XS.go (s_iloadn rfl rfl rfl) ?_
  refine XS.go (s_i2l rfl) ?_
  refine XS.go (s_aloadn rfl rfl rfl) ?_
  by_cases qk6 : t < hz h ∧ hk h t = 5
  rotate_left
  · rw [if_neg qk6] at hf; cases hf
  rw [if_pos qk6] at hf
  rcases qr8 : hr h t 1 with _ | b7
  · rw [qr8] at hf; cases hf
  rw [qr8] at hf; dsimp only at hf
  refine XS.go (s_getr rfl xf5_25 qk6.1 qk6.2 (by decide) rfl qr8) ?_
  refine XS.go (s_iloadn rfl rfl rfl) ?_
  refine XS.go (s_iconst (v := 4) rfl rfl) ?_
  by_cases qk9 : b7 < hz h ∧ hk h b7 = 1
  rotate_left
  · rw [if_neg qk9] at hf; cases hf
  rw [if_pos qk9] at hf
  rcases e11 : f_b_number b7 a0 4 h with _ | r10
  · rw [e11] at hf; cases hf
  rw [e11] at hf; dsimp only at hf
  refine r_callv rfl xvX1_number xm5_45 (kf_b_number (d := d) L0 e11) qk9.1 qk9.2 (by decide) rfl rfl (by omega) (by decide) (Nat.le_of_ble_eq_true rfl) ?_
  rintro _ _ ⟨⟨rfl, rfl⟩, L12⟩
  refine XS.go (s_ladd rfl) ?_
  refine XS.go (s_lstoren rfl rfl (Nat.le_of_ble_eq_true rfl)) ?_
  refine XS.go (s_lloadn rfl rfl rfl) ?_
  refine XS.go (s_iloadn rfl rfl rfl) ?_
  refine XS.go (s_i2l rfl) ?_
  refine XS.go (s_lcmp rfl) ?_
  refine r_if_eq (tgt := 34) rfl rfl (fun qc13 => ?_) (fun qc13 => ?_)
  · rw [if_pos qc13] at hf
    exact XR.forget (L2 := [some (.ref t), some (.int a0), none, none]) ⟨rfl, ⟨rfl, trivial⟩⟩ (kb_j_isReference_34 L12 hf)
  · rw [if_neg qc13] at hf
    refine XS.go (s_lloadn rfl rfl rfl) ?_
    refine XS.go (s_ldc2 rfl (lg_3 220 rfl rfl)) ?_
    refine XS.go (s_ladd rfl) ?_
    refine XS.go (s_aloadn rfl rfl rfl) ?_
    by_cases qk14 : t < hz r10.2 ∧ hk r10.2 t = 5
    rotate_left
    · rw [if_neg qk14] at hf; cases hf
    rw [if_pos qk14] at hf
    refine XS.go (s_getie rfl xf5_29 qk14.1 qk14.2 (by decide) rfl rfl) ?_
    refine XS.go (s_i2l rfl) ?_
    refine XS.go (s_lcmp rfl) ?_
    refine r_if_le (tgt := 42) rfl rfl (fun qc15 => ?_) (fun qc15 => ?_)
    · rw [if_pos qc15] at hf
      refine XS.go (s_lloadn rfl rfl rfl) ?_
      refine XS.go (s_ldc2 rfl (lg_3 221 rfl rfl)) ?_
      refine XS.go (s_land rfl) ?_
      refine XS.go (s_lconst (v := 0) rfl rfl) ?_
      refine XS.go (s_lcmp rfl) ?_
      refine r_if_eq (tgt := 62) rfl rfl (fun qc16 => ?_) (fun qc16 => ?_)
      · rw [if_pos qc16] at hf
        exact XR.forget (L2 := [none, none, none, none]) trivial (kb_j_isReference_62 L12 hf)
      · rw [if_neg qc16] at hf
        refine XS.go (s_aloadn rfl rfl rfl) ?_
        refine XS.go (s_iconst (v := 3) rfl rfl) ?_
        refine XS.go (s_iloadn rfl rfl rfl) ?_
        refine XS.go (s_i2l rfl) ?_
        rcases e18 : f_j_wrong t 3 (Int32.toInt64 a0) r10.2 with _ | r17
        · rw [e18] at hf; cases hf
        rw [e18] at hf; dsimp only at hf
        refine r_callv rfl xvX5_wrong xm5_32 (kf_j_wrong (d := d) L12 e18) qk14.1 qk14.2 (by decide) rfl rfl (by omega) (by decide) (Nat.le_of_ble_eq_true rfl) ?_
        rintro _ _ ⟨⟨rfl, rfl⟩, L19⟩
        refine r_if_eq (tgt := 66) rfl rfl (fun qc20 => ?_) (fun qc20 => ?_)
        · rw [if_pos qc20] at hf
          refine XS.go (s_iconst (v := 0) rfl rfl) ?_
          cases hf
          exact XR.retz rfl rfl (by decide) (fun hret => ⟨_, hret, ⟨rfl, rfl⟩, L19⟩)
        · rw [if_neg qc20] at hf
          exact XR.forget (L2 := [none, none, none, none]) trivial (kb_j_isReference_62 L19 hf)
    · rw [if_neg qc15] at hf
      exact XR.forget (L2 := [some (.ref t), some (.int a0), none, none]) ⟨rfl, ⟨rfl, trivial⟩⟩ (kb_j_isReference_34 L12 hf)
def b_j_isStruct_56 (K8 : Nat → Int32 → Nat → Int32 → XH → Option (Int32 × XH)) (x0 : Nat) (x1 : Int32) (x2 : Nat) (x3 : Int32) (h : XH) : Option (Int32 × XH) := (K8 x0 x1 x2 (x3 + 1) h)
set_option maxRecDepth 20000 in
theorem kb_j_isStruct_56 {l : Launch} {G : XG} {d : Nat} {K8 : Nat → Int32 → Nat → Int32 → XH → Option (Int32 × XH)} {x0 : Nat} {x1 : Int32} {x2 : Nat} {x3 : Int32} {h : XH} {r : Int32 × XH} (hK8 : ∀ (x0 : Nat) (x1 : Int32) (x2 : Nat) (x3 : Int32) (h : XH), LY h → K8 x0 x1 x2 x3 h = some r → XR l G xEX5_isStruct (d + 1) (8, [some (.ref x0), some (.int x1), some (.ref x2), some (.int x3), none], [], h) (fun C => ∃ v, xRet xEX5_isStruct C v ∧ (C.2.2.2 = r.2 ∧ v = some (.int r.1)) ∧ LY r.2)) (L0 : LY h) (hf : b_j_isStruct_56 K8 x0 x1 x2 x3 h = some r) : XR l G xEX5_isStruct (d + 1) (56, [some (.ref x0), some (.int x1), some (.ref x2), some (.int x3), none], [], h) (fun C => ∃ v, xRet xEX5_isStruct C v ∧ (C.2.2.2 = r.2 ∧ v = some (.int r.1)) ∧ LY r.2) := by
  unfold b_j_isStruct_56 at hf
  refine XS.go (s_inc rfl rfl (Nat.le_of_ble_eq_true rfl)) ?_
  refine XS.go (s_goto (tgt := 8) rfl rfl) ?_
  exact XR.forget (L2 := [some (.ref x0), some (.int x1), some (.ref x2), some (.int (x3 + 1)), none]) ⟨rfl, ⟨rfl, ⟨rfl, ⟨rfl, trivial⟩⟩⟩⟩ (hK8 x0 x1 x2 (x3 + 1) _ L0 hf)
def b_j_isStruct_8 : Nat → Nat → Int32 → Nat → Int32 → XH → Option (Int32 × XH)
  | 0, _, _, _, _, _ => none
  | n + 1, x0, x1, x2, x3, h => (if x2 < hz h ∧ hk h x2 = 2 then (if (hi h x2 11) ≤ x3 then (some (1, h)) else (match f_d_leafPlace x2 x3 h with | none => none | some r3 => (if x2 < hz r3.2 ∧ hk r3.2 x2 = 2 then (match f_d_leafScalar x2 x3 r3.2 with | none => none | some r7 => (if ¬ r7.1 = 0 then (b_j_isStruct_56 (b_j_isStruct_8 n) x0 x1 x2 x3 r7.2) else (if x0 < hz r7.2 ∧ hk r7.2 x0 = 5 then (match hr r7.2 x0 1 with | none => none | some b12 => (if b12 < hz r7.2 ∧ hk r7.2 b12 = 1 then (match f_b_octet b12 (x1 + r3.1) r7.2 with | none => none | some r15 => (if r15.1 ≤ 1 then (b_j_isStruct_56 (b_j_isStruct_8 n) x0 x1 x2 x3 r15.2) else (if x0 < hz r15.2 ∧ hk r15.2 x0 = 5 then (match f_j_wrong x0 11 (Int32.toInt64 (x1 + r3.1)) r15.2 with | none => none | some r20 => (if r20.1 = 0 ∨ r20.1 = 1 then (some (r20.1, r20.2)) else none)) else none))) else none)) else none))) else none))) else none)
set_option maxRecDepth 20000 in
theorem kb_j_isStruct_8 {l : Launch} {G : XG} {d : Nat} {n : Nat} {x0 : Nat} {x1 : Int32} {x2 : Nat} {x3 : Int32} {h : XH} {r : Int32 × XH} (L0 : LY h) (hf : b_j_isStruct_8 n x0 x1 x2 x3 h = some r) : XR l G xEX5_isStruct (d + 1) (8, [some (.ref x0), some (.int x1), some (.ref x2), some (.int x3), none], [], h) (fun C => ∃ v, xRet xEX5_isStruct C v ∧ (C.2.2.2 = r.2 ∧ v = some (.int r.1)) ∧ LY r.2) := by
  induction n generalizing x0 x1 x2 x3 h with
  | zero => cases hf
  | succ n ih =>
    replace ih : ∀ (x0 : Nat) (x1 : Int32) (x2 : Nat) (x3 : Int32) (h : XH), LY h → b_j_isStruct_8 n x0 x1 x2 x3 h = some r → XR l G xEX5_isStruct (d + 1) (8, [some (.ref x0), some (.int x1), some (.ref x2), some (.int x3), none], [], h) (fun C => ∃ v, xRet xEX5_isStruct C v ∧ (C.2.2.2 = r.2 ∧ v = some (.int r.1)) ∧ LY r.2) := fun x0 x1 x2 x3 h L0 hf => ih (h := h) (x0 := x0) (x1 := x1) (x2 := x2) (x3 := x3) L0 hf
    rw [b_j_isStruct_8] at hf
    refine XS.go (s_iloadn rfl rfl rfl) ?_
    refine XS.go (s_aloadn rfl rfl rfl) ?_
    by_cases qk1 : x2 < hz h ∧ hk h x2 = 2
    rotate_left
    · rw [if_neg qk1] at hf; cases hf
    rw [if_pos qk1] at hf
    refine XS.go (s_getie rfl xf5_163 qk1.1 qk1.2 (by decide) rfl rfl) ?_
    refine r_icmp_ge (tgt := 62) rfl rfl (fun qc2 => ?_) (fun qc2 => ?_)
    · rw [if_pos qc2] at hf
      refine XS.go (s_iconst (v := 1) rfl rfl) ?_
      cases hf
      exact XR.retz rfl rfl (by decide) (fun hret => ⟨_, hret, ⟨rfl, rfl⟩, L0⟩)
    · rw [if_neg qc2] at hf
      refine XS.go (s_iloadn rfl rfl rfl) ?_
      refine XS.go (s_aloadn rfl rfl rfl) ?_
      refine XS.go (s_iloadn rfl rfl rfl) ?_
      rcases e4 : f_d_leafPlace x2 x3 h with _ | r3
      · rw [e4] at hf; cases hf
      rw [e4] at hf; dsimp only at hf
      refine r_callv rfl xvX2_leafPlace xm5_166 (kf_d_leafPlace (d := d) L0 e4) qk1.1 qk1.2 (by decide) rfl rfl (by omega) (by decide) (Nat.le_of_ble_eq_true rfl) ?_
      rintro _ _ ⟨⟨rfl, rfl⟩, L5⟩
      refine XS.go (s_iadd rfl) ?_
      refine XS.go (s_istore rfl (Nat.le_of_ble_eq_true rfl)) ?_
      refine XS.go (s_aloadn rfl rfl rfl) ?_
      refine XS.go (s_iloadn rfl rfl rfl) ?_
      by_cases qk6 : x2 < hz r3.2 ∧ hk r3.2 x2 = 2
      rotate_left
      · rw [if_neg qk6] at hf; cases hf
      rw [if_pos qk6] at hf
      rcases e8 : f_d_leafScalar x2 x3 r3.2 with _ | r7
      · rw [e8] at hf; cases hf
      rw [e8] at hf; dsimp only at hf
      refine r_callv rfl xvX2_leafScalar xm5_169 (kf_d_leafScalar (d := d) L5 e8) qk6.1 qk6.2 (by decide) rfl rfl (by omega) (by decide) (Nat.le_of_ble_eq_true rfl) ?_
      rintro _ _ ⟨⟨rfl, rfl⟩, L9⟩
      refine r_if_ne (tgt := 56) rfl rfl (fun qc10 => ?_) (fun qc10 => ?_)
      · rw [if_pos qc10] at hf
        exact XR.forget (L2 := [some (.ref x0), some (.int x1), some (.ref x2), some (.int x3), none]) ⟨rfl, ⟨rfl, ⟨rfl, ⟨rfl, trivial⟩⟩⟩⟩ (kb_j_isStruct_56 ih L9 hf)
      · rw [if_neg qc10] at hf
        refine XS.go (s_aloadn rfl rfl rfl) ?_
        by_cases qk11 : x0 < hz r7.2 ∧ hk r7.2 x0 = 5
        rotate_left
        · rw [if_neg qk11] at hf; cases hf
        rw [if_pos qk11] at hf
        rcases qr13 : hr r7.2 x0 1 with _ | b12
        · rw [qr13] at hf; cases hf
        rw [qr13] at hf; dsimp only at hf
        refine XS.go (s_getr rfl xf5_25 qk11.1 qk11.2 (by decide) rfl qr13) ?_
        refine XS.go (s_iload rfl rfl) ?_
        by_cases qk14 : b12 < hz r7.2 ∧ hk r7.2 b12 = 1
        rotate_left
        · rw [if_neg qk14] at hf; cases hf
        rw [if_pos qk14] at hf
        rcases e16 : f_b_octet b12 (x1 + r3.1) r7.2 with _ | r15
        · rw [e16] at hf; cases hf
        rw [e16] at hf; dsimp only at hf
        refine r_callv rfl xvX1_octet xm5_143 (kf_b_octet (d := d) L9 e16) qk14.1 qk14.2 (by decide) rfl rfl (by omega) (by decide) (Nat.le_of_ble_eq_true rfl) ?_
        rintro _ _ ⟨⟨rfl, rfl⟩, L17⟩
        refine XS.go (s_iconst (v := 1) rfl rfl) ?_
        refine r_icmp_le (tgt := 56) rfl rfl (fun qc18 => ?_) (fun qc18 => ?_)
        · rw [if_pos qc18] at hf
          exact XR.forget (L2 := [some (.ref x0), some (.int x1), some (.ref x2), some (.int x3), none]) ⟨rfl, ⟨rfl, ⟨rfl, ⟨rfl, trivial⟩⟩⟩⟩ (kb_j_isStruct_56 ih L17 hf)
        · rw [if_neg qc18] at hf
          refine XS.go (s_aloadn rfl rfl rfl) ?_
          refine XS.go (s_bipush (v := 11) rfl rfl) ?_
          refine XS.go (s_iload rfl rfl) ?_
          refine XS.go (s_i2l rfl) ?_
          by_cases qk19 : x0 < hz r15.2 ∧ hk r15.2 x0 = 5
          rotate_left
          · rw [if_neg qk19] at hf; cases hf
          rw [if_pos qk19] at hf
          rcases e21 : f_j_wrong x0 11 (Int32.toInt64 (x1 + r3.1)) r15.2 with _ | r20
          · rw [e21] at hf; cases hf
          rw [e21] at hf; dsimp only at hf
          refine r_callv rfl xvX5_wrong xm5_32 (kf_j_wrong (d := d) L17 e21) qk19.1 qk19.2 (by decide) rfl rfl (by omega) (by decide) (Nat.le_of_ble_eq_true rfl) ?_
          rintro _ _ ⟨⟨rfl, rfl⟩, L22⟩
          by_cases qk23 : r20.1 = 0 ∨ r20.1 = 1
          rotate_left
          · rw [if_neg qk23] at hf; cases hf
          rw [if_pos qk23] at hf
          cases hf
          exact XR.retz rfl rfl qk23 (fun hret => ⟨_, hret, ⟨rfl, rfl⟩, L22⟩)
def f_j_isStruct (t : Nat) (a0 : Int32) (a1 : Nat) (h : XH) : Option (Int32 × XH) := (b_j_isStruct_8 100000 t a0 a1 0 h)
set_option maxRecDepth 20000 in
theorem kf_j_isStruct {l : Launch} {G : XG} {d : Nat} {t : Nat} {a0 : Int32} {a1 : Nat} {h : XH} {r : Int32 × XH} (L0 : LY h) (hf : f_j_isStruct t a0 a1 h = some r) : XC l G xEX5_isStruct (d + 1) [.ref t, .int a0, .ref a1] h (fun v h2 => (h2 = r.2 ∧ v = some (.int r.1)) ∧ LY r.2) := by
  refine XC.virt xvX5_isStruct (Nat.le_of_ble_eq_true rfl) ?_
  unfold f_j_isStruct at hf
  refine XS.go (s_aloadn rfl rfl rfl) ?_
  refine XS.go (s_ifnonnull_r (tgt := 6) rfl rfl) ?_
  refine XS.go (s_iconst (v := 0) rfl rfl) ?_
  refine XS.go (s_istoren rfl rfl (Nat.le_of_ble_eq_true rfl)) ?_
  exact XR.forget (L2 := [some (.ref t), some (.int a0), some (.ref a1), some (.int 0), none]) ⟨rfl, ⟨rfl, ⟨rfl, ⟨rfl, trivial⟩⟩⟩⟩ (kb_j_isStruct_8 L0 hf)
def b_j_isText_58 (h : XH) : Option (Int32 × XH) := (some (1, h))
set_option maxRecDepth 20000 in
theorem kb_j_isText_58 {l : Launch} {G : XG} {d : Nat} {h : XH} {r : Int32 × XH} (L0 : LY h) (hf : b_j_isText_58 h = some r) : XR l G xEX5_isText (d + 1) (58, [none, none, none, none], [], h) (fun C => ∃ v, xRet xEX5_isText C v ∧ (C.2.2.2 = r.2 ∧ v = some (.int r.1)) ∧ LY r.2) := by
  unfold b_j_isText_58 at hf
  refine XS.go (s_iconst (v := 1) rfl rfl) ?_
  refine XS.go (s_goto (tgt := 63) rfl rfl) ?_
  cases hf
  exact XR.retz rfl rfl (by decide) (fun hret => ⟨_, hret, ⟨rfl, rfl⟩, L0⟩)
def f_j_isText (t : Nat) (a0 : Int32) (h : XH) : Option (Int32 × XH) := (if t < hz h ∧ hk h t = 5 then (match hr h t 1 with | none => none | some b2 => (if b2 < hz h ∧ hk h b2 = 1 then (match f_b_number b2 a0 4 h with | none => none | some r5 => (if t < hz r5.2 ∧ hk r5.2 t = 5 then (if (lg_cmp (((Int32.toInt64 (a0 + 4)) + r5.1) + 1) (Int32.toInt64 (hi r5.2 t 2))) ≤ 0 then (match hr r5.2 t 1 with | none => none | some b10 => (if b10 < hz r5.2 ∧ hk r5.2 b10 = 1 then (match f_b_octet b10 (Int64.toInt32 ((Int32.toInt64 (a0 + 4)) + r5.1)) r5.2 with | none => none | some r13 => (if r13.1 = 0 then (b_j_isText_58 r13.2) else (if t < hz r13.2 ∧ hk r13.2 t = 5 then (match f_j_wrong t 14 ((Int32.toInt64 (a0 + 4)) + r5.1) r13.2 with | none => none | some r18 => (if r18.1 = 0 then (some (0, r18.2)) else (b_j_isText_58 r18.2))) else none))) else none)) else (match f_j_wrong t 13 (Int32.toInt64 a0) r5.2 with | none => none | some r22 => (if r22.1 = 0 ∨ r22.1 = 1 then (some (r22.1, r22.2)) else none))) else none)) else none)) else none)
set_option maxRecDepth 20000 in
theorem kf_j_isText {l : Launch} {G : XG} {d : Nat} {t : Nat} {a0 : Int32} {h : XH} {r : Int32 × XH} (L0 : LY h) (hf : f_j_isText t a0 h = some r) : XC l G xEX5_isText (d + 1) [.ref t, .int a0] h (fun v h2 => (h2 = r.2 ∧ v = some (.int r.1)) ∧ LY r.2) := by
  refine XC.virt xvX5_isText (Nat.le_of_ble_eq_true rfl) ?_
  unfold f_j_isText at hf
  refine XS.go (s_iloadn rfl rfl rfl) ?_
  refine XS.go (s_iconst (v := 4) rfl rfl) ?_
  refine XS.go (s_iadd rfl) ?_
  refine XS.go (s_i2l rfl) ?_
  refine XS.go (s_aloadn rfl rfl rfl) ?_
  by_cases qk1 : t < hz h ∧ hk h t = 5
  rotate_left
  · rw [if_neg qk1] at hf; cases hf
  rw [if_pos qk1] at hf
  rcases qr3 : hr h t 1 with _ | b2
  · rw [qr3] at hf; cases hf
  rw [qr3] at hf; dsimp only at hf
  refine XS.go (s_getr rfl xf5_25 qk1.1 qk1.2 (by decide) rfl qr3) ?_
  refine XS.go (s_iloadn rfl rfl rfl) ?_
  refine XS.go (s_iconst (v := 4) rfl rfl) ?_
  by_cases qk4 : b2 < hz h ∧ hk h b2 = 1
  rotate_left
  · rw [if_neg qk4] at hf; cases hf
  rw [if_pos qk4] at hf
  rcases e6 : f_b_number b2 a0 4 h with _ | r5
  · rw [e6] at hf; cases hf
  rw [e6] at hf; dsimp only at hf
  refine r_callv rfl xvX1_number xm5_45 (kf_b_number (d := d) L0 e6) qk4.1 qk4.2 (by decide) rfl rfl (by omega) (by decide) (Nat.le_of_ble_eq_true rfl) ?_
  rintro _ _ ⟨⟨rfl, rfl⟩, L7⟩
  refine XS.go (s_ladd rfl) ?_
  refine XS.go (s_lstoren rfl rfl (Nat.le_of_ble_eq_true rfl)) ?_
  refine XS.go (s_lloadn rfl rfl rfl) ?_
  refine XS.go (s_lconst (v := 1) rfl rfl) ?_
  refine XS.go (s_ladd rfl) ?_
  refine XS.go (s_aloadn rfl rfl rfl) ?_
  by_cases qk8 : t < hz r5.2 ∧ hk r5.2 t = 5
  rotate_left
  · rw [if_neg qk8] at hf; cases hf
  rw [if_pos qk8] at hf
  refine XS.go (s_getie rfl xf5_29 qk8.1 qk8.2 (by decide) rfl rfl) ?_
  refine XS.go (s_i2l rfl) ?_
  refine XS.go (s_lcmp rfl) ?_
  refine r_if_le (tgt := 36) rfl rfl (fun qc9 => ?_) (fun qc9 => ?_)
  · rw [if_pos qc9] at hf
    refine XS.go (s_aloadn rfl rfl rfl) ?_
    rcases qr11 : hr r5.2 t 1 with _ | b10
    · rw [qr11] at hf; cases hf
    rw [qr11] at hf; dsimp only at hf
    refine XS.go (s_getr rfl xf5_25 qk8.1 qk8.2 (by decide) rfl qr11) ?_
    refine XS.go (s_lloadn rfl rfl rfl) ?_
    refine XS.go (s_l2i rfl) ?_
    by_cases qk12 : b10 < hz r5.2 ∧ hk r5.2 b10 = 1
    rotate_left
    · rw [if_neg qk12] at hf; cases hf
    rw [if_pos qk12] at hf
    rcases e14 : f_b_octet b10 (Int64.toInt32 ((Int32.toInt64 (a0 + 4)) + r5.1)) r5.2 with _ | r13
    · rw [e14] at hf; cases hf
    rw [e14] at hf; dsimp only at hf
    refine r_callv rfl xvX1_octet xm5_143 (kf_b_octet (d := d) L7 e14) qk12.1 qk12.2 (by decide) rfl rfl (by omega) (by decide) (Nat.le_of_ble_eq_true rfl) ?_
    rintro _ _ ⟨⟨rfl, rfl⟩, L15⟩
    refine r_if_eq (tgt := 58) rfl rfl (fun qc16 => ?_) (fun qc16 => ?_)
    · rw [if_pos qc16] at hf
      exact XR.forget (L2 := [none, none, none, none]) trivial (kb_j_isText_58 L15 hf)
    · rw [if_neg qc16] at hf
      refine XS.go (s_aloadn rfl rfl rfl) ?_
      refine XS.go (s_bipush (v := 14) rfl rfl) ?_
      refine XS.go (s_lloadn rfl rfl rfl) ?_
      by_cases qk17 : t < hz r13.2 ∧ hk r13.2 t = 5
      rotate_left
      · rw [if_neg qk17] at hf; cases hf
      rw [if_pos qk17] at hf
      rcases e19 : f_j_wrong t 14 ((Int32.toInt64 (a0 + 4)) + r5.1) r13.2 with _ | r18
      · rw [e19] at hf; cases hf
      rw [e19] at hf; dsimp only at hf
      refine r_callv rfl xvX5_wrong xm5_32 (kf_j_wrong (d := d) L15 e19) qk17.1 qk17.2 (by decide) rfl rfl (by omega) (by decide) (Nat.le_of_ble_eq_true rfl) ?_
      rintro _ _ ⟨⟨rfl, rfl⟩, L20⟩
      refine r_if_eq (tgt := 62) rfl rfl (fun qc21 => ?_) (fun qc21 => ?_)
      · rw [if_pos qc21] at hf
        refine XS.go (s_iconst (v := 0) rfl rfl) ?_
        cases hf
        exact XR.retz rfl rfl (by decide) (fun hret => ⟨_, hret, ⟨rfl, rfl⟩, L20⟩)
      · rw [if_neg qc21] at hf
        exact XR.forget (L2 := [none, none, none, none]) trivial (kb_j_isText_58 L20 hf)
  · rw [if_neg qc9] at hf
    refine XS.go (s_aloadn rfl rfl rfl) ?_
    refine XS.go (s_bipush (v := 13) rfl rfl) ?_
    refine XS.go (s_iloadn rfl rfl rfl) ?_
    refine XS.go (s_i2l rfl) ?_
    rcases e23 : f_j_wrong t 13 (Int32.toInt64 a0) r5.2 with _ | r22
    · rw [e23] at hf; cases hf
    rw [e23] at hf; dsimp only at hf
    refine r_callv rfl xvX5_wrong xm5_32 (kf_j_wrong (d := d) L7 e23) qk8.1 qk8.2 (by decide) rfl rfl (by omega) (by decide) (Nat.le_of_ble_eq_true rfl) ?_
    rintro _ _ ⟨⟨rfl, rfl⟩, L24⟩
    by_cases qk25 : r22.1 = 0 ∨ r22.1 = 1
    rotate_left
    · rw [if_neg qk25] at hf; cases hf
    rw [if_pos qk25] at hf
    cases hf
    exact XR.retz rfl rfl qk25 (fun hret => ⟨_, hret, ⟨rfl, rfl⟩, L24⟩)
def b_j_isEmptyUnion_55 (h : XH) : Option (Int32 × XH) := (some (1, h))
set_option maxRecDepth 20000 in
theorem kb_j_isEmptyUnion_55 {l : Launch} {G : XG} {d : Nat} {h : XH} {r : Int32 × XH} (L0 : LY h) (hf : b_j_isEmptyUnion_55 h = some r) : XR l G xEX5_isEmptyUnion (d + 2) (55, [none, none, none, none, none], [], h) (fun C => ∃ v, xRet xEX5_isEmptyUnion C v ∧ (C.2.2.2 = r.2 ∧ v = some (.int r.1)) ∧ LY r.2) := by
  unfold b_j_isEmptyUnion_55 at hf
  refine XS.go (s_iconst (v := 1) rfl rfl) ?_
  refine XS.go (s_goto (tgt := 60) rfl rfl) ?_
  cases hf
  exact XR.retz rfl rfl (by decide) (fun hret => ⟨_, hret, ⟨rfl, rfl⟩, L0⟩)
def f_j_isEmptyUnion (t : Nat) (a0 : Int32) (a1 : Int32) (a2 : Nat) (h : XH) : Option (Int32 × XH) := (if a2 < hz h ∧ hk h a2 = 3 then (if t < hz h ∧ hk h t = 5 then (match hr h t 1 with | none => none | some b3 => (if b3 < hz h ∧ hk h b3 = 1 then (match f_b_slotNumber b3 a1 ((hi h a2 6) + 1) h with | none => none | some r6 => (if r6.1 = 0 then (if a2 < hz r6.2 ∧ hk r6.2 a2 = 3 then (if (hi r6.2 a2 7) = 0 then (b_j_isEmptyUnion_55 r6.2) else (if t < hz r6.2 ∧ hk r6.2 t = 5 then (match f_j_wrong t 9 (Int32.toInt64 a0) r6.2 with | none => none | some r13 => (if r13.1 = 0 then (some (0, r13.2)) else (b_j_isEmptyUnion_55 r13.2))) else none)) else none) else (if t < hz r6.2 ∧ hk r6.2 t = 5 then (match f_j_wrong t 12 (Int32.toInt64 ((a1 + 4) + (2 * ((hi h a2 6) + 1)))) r6.2 with | none => none | some r18 => (if r18.1 = 0 ∨ r18.1 = 1 then (some (r18.1, r18.2)) else none)) else none))) else none)) else none) else none)
set_option maxRecDepth 20000 in
theorem kf_j_isEmptyUnion {l : Launch} {G : XG} {d : Nat} {t : Nat} {a0 : Int32} {a1 : Int32} {a2 : Nat} {h : XH} {r : Int32 × XH} (L0 : LY h) (hf : f_j_isEmptyUnion t a0 a1 a2 h = some r) : XC l G xEX5_isEmptyUnion (d + 2) [.ref t, .int a0, .int a1, .ref a2] h (fun v h2 => (h2 = r.2 ∧ v = some (.int r.1)) ∧ LY r.2) := by
  refine XC.virt xvX5_isEmptyUnion (Nat.le_of_ble_eq_true rfl) ?_
  unfold f_j_isEmptyUnion at hf
  refine XS.go (s_aloadn rfl rfl rfl) ?_
  by_cases qk1 : a2 < hz h ∧ hk h a2 = 3
  rotate_left
  · rw [if_neg qk1] at hf; cases hf
  rw [if_pos qk1] at hf
  refine XS.go (s_getie rfl xf5_103 qk1.1 qk1.2 (by decide) rfl rfl) ?_
  refine XS.go (s_iconst (v := 1) rfl rfl) ?_
  refine XS.go (s_iadd rfl) ?_
  refine XS.go (s_istore rfl (Nat.le_of_ble_eq_true rfl)) ?_
  refine XS.go (s_aloadn rfl rfl rfl) ?_
  by_cases qk2 : t < hz h ∧ hk h t = 5
  rotate_left
  · rw [if_neg qk2] at hf; cases hf
  rw [if_pos qk2] at hf
  rcases qr4 : hr h t 1 with _ | b3
  · rw [qr4] at hf; cases hf
  rw [qr4] at hf; dsimp only at hf
  refine XS.go (s_getr rfl xf5_25 qk2.1 qk2.2 (by decide) rfl qr4) ?_
  refine XS.go (s_iloadn rfl rfl rfl) ?_
  refine XS.go (s_iload rfl rfl) ?_
  by_cases qk5 : b3 < hz h ∧ hk h b3 = 1
  rotate_left
  · rw [if_neg qk5] at hf; cases hf
  rw [if_pos qk5] at hf
  rcases e7 : f_b_slotNumber b3 a1 ((hi h a2 6) + 1) h with _ | r6
  · rw [e7] at hf; cases hf
  rw [e7] at hf; dsimp only at hf
  refine r_callv rfl xvX1_slotNumber xm5_106 (kf_b_slotNumber (d := d) L0 e7) qk5.1 qk5.2 (by decide) rfl rfl (by omega) (by decide) (Nat.le_of_ble_eq_true rfl) ?_
  rintro _ _ ⟨⟨rfl, rfl⟩, L8⟩
  refine r_if_eq (tgt := 37) rfl rfl (fun qc9 => ?_) (fun qc9 => ?_)
  · rw [if_pos qc9] at hf
    refine XS.go (s_aloadn rfl rfl rfl) ?_
    by_cases qk10 : a2 < hz r6.2 ∧ hk r6.2 a2 = 3
    rotate_left
    · rw [if_neg qk10] at hf; cases hf
    rw [if_pos qk10] at hf
    refine XS.go (s_getze rfl xf5_110 qk10.1 qk10.2 (by decide) rfl rfl) ?_
    refine r_if_eq (tgt := 55) rfl rfl (fun qc11 => ?_) (fun qc11 => ?_)
    · rw [if_pos qc11] at hf
      exact XR.forget (L2 := [none, none, none, none, none]) trivial (kb_j_isEmptyUnion_55 L8 hf)
    · rw [if_neg qc11] at hf
      refine XS.go (s_aloadn rfl rfl rfl) ?_
      refine XS.go (s_bipush (v := 9) rfl rfl) ?_
      refine XS.go (s_iloadn rfl rfl rfl) ?_
      refine XS.go (s_i2l rfl) ?_
      by_cases qk12 : t < hz r6.2 ∧ hk r6.2 t = 5
      rotate_left
      · rw [if_neg qk12] at hf; cases hf
      rw [if_pos qk12] at hf
      rcases e14 : f_j_wrong t 9 (Int32.toInt64 a0) r6.2 with _ | r13
      · rw [e14] at hf; cases hf
      rw [e14] at hf; dsimp only at hf
      refine r_callv rfl xvX5_wrong xm5_32 (kf_j_wrong (d := d) L8 e14) qk12.1 qk12.2 (by decide) rfl rfl (by omega) (by decide) (Nat.le_of_ble_eq_true rfl) ?_
      rintro _ _ ⟨⟨rfl, rfl⟩, L15⟩
      refine r_if_eq (tgt := 59) rfl rfl (fun qc16 => ?_) (fun qc16 => ?_)
      · rw [if_pos qc16] at hf
        refine XS.go (s_iconst (v := 0) rfl rfl) ?_
        cases hf
        exact XR.retz rfl rfl (by decide) (fun hret => ⟨_, hret, ⟨rfl, rfl⟩, L15⟩)
      · rw [if_neg qc16] at hf
        exact XR.forget (L2 := [none, none, none, none, none]) trivial (kb_j_isEmptyUnion_55 L15 hf)
  · rw [if_neg qc9] at hf
    refine XS.go (s_aloadn rfl rfl rfl) ?_
    refine XS.go (s_bipush (v := 12) rfl rfl) ?_
    refine XS.go (s_iloadn rfl rfl rfl) ?_
    refine XS.go (s_iconst (v := 4) rfl rfl) ?_
    refine XS.go (s_iadd rfl) ?_
    refine XS.go (s_iconst (v := 2) rfl rfl) ?_
    refine XS.go (s_iload rfl rfl) ?_
    refine XS.go (s_imul rfl) ?_
    refine XS.go (s_iadd rfl) ?_
    refine XS.go (s_i2l rfl) ?_
    by_cases qk17 : t < hz r6.2 ∧ hk r6.2 t = 5
    rotate_left
    · rw [if_neg qk17] at hf; cases hf
    rw [if_pos qk17] at hf
    rcases e19 : f_j_wrong t 12 (Int32.toInt64 ((a1 + 4) + (2 * ((hi h a2 6) + 1)))) r6.2 with _ | r18
    · rw [e19] at hf; cases hf
    rw [e19] at hf; dsimp only at hf
    refine r_callv rfl xvX5_wrong xm5_32 (kf_j_wrong (d := d) L8 e19) qk17.1 qk17.2 (by decide) rfl rfl (by omega) (by decide) (Nat.le_of_ble_eq_true rfl) ?_
    rintro _ _ ⟨⟨rfl, rfl⟩, L20⟩
    by_cases qk21 : r18.1 = 0 ∨ r18.1 = 1
    rotate_left
    · rw [if_neg qk21] at hf; cases hf
    rw [if_pos qk21] at hf
    cases hf
    exact XR.retz rfl rfl qk21 (fun hret => ⟨_, hret, ⟨rfl, rfl⟩, L20⟩)
def f_t_isAligned (a0 : Int32) (a1 : Int32) (h : XH) : Option (Int32 × XH) := (if ¬ (a0 &&& (a1 - 1)) = 0 then (some (0, h)) else (some (1, h)))
set_option maxRecDepth 20000 in
theorem kf_t_isAligned {l : Launch} {G : XG} {d : Nat} {a0 : Int32} {a1 : Int32} {h : XH} {r : Int32 × XH} (L0 : LY h) (hf : f_t_isAligned a0 a1 h = some r) : XC l G xEX11_isAligned d [.int a0, .int a1] h (fun v h2 => (h2 = r.2 ∧ v = some (.int r.1)) ∧ LY r.2) := by
  refine XC.stat xsX11_isAligned (Nat.le_of_ble_eq_true rfl) ?_
  unfold f_t_isAligned at hf
  refine XS.go (s_iloadn rfl rfl rfl) ?_
  refine XS.go (s_iloadn rfl rfl rfl) ?_
  refine XS.go (s_iconst (v := 1) rfl rfl) ?_
  refine XS.go (s_isub rfl) ?_
  refine XS.go (s_iand rfl) ?_
  refine r_if_ne (tgt := 12) rfl rfl (fun qc1 => ?_) (fun qc1 => ?_)
  · rw [if_pos qc1] at hf
    refine XS.go (s_iconst (v := 0) rfl rfl) ?_
    cases hf
    exact XR.retz rfl rfl (by decide) (fun hret => ⟨_, hret, ⟨rfl, rfl⟩, L0⟩)
  · rw [if_neg qc1] at hf
    refine XS.go (s_iconst (v := 1) rfl rfl) ?_
    refine XS.go (s_goto (tgt := 13) rfl rfl) ?_
    cases hf
    exact XR.retz rfl rfl (by decide) (fun hret => ⟨_, hret, ⟨rfl, rfl⟩, L0⟩)
def b_j_liesWell_82 (h : XH) : Option (Int32 × XH) := (some (1, h))
set_option maxRecDepth 20000 in
theorem kb_j_liesWell_82 {l : Launch} {G : XG} {d : Nat} {h : XH} {r : Int32 × XH} (L0 : LY h) (hf : b_j_liesWell_82 h = some r) : XR l G xEX5_liesWell (d + 1) (82, [none, none, none, none, none, none, none, none], [], h) (fun C => ∃ v, xRet xEX5_liesWell C v ∧ (C.2.2.2 = r.2 ∧ v = some (.int r.1)) ∧ LY r.2) := by
  unfold b_j_liesWell_82 at hf
  refine XS.go (s_iconst (v := 1) rfl rfl) ?_
  refine XS.go (s_goto (tgt := 87) rfl rfl) ?_
  cases hf
  exact XR.retz rfl rfl (by decide) (fun hret => ⟨_, hret, ⟨rfl, rfl⟩, L0⟩)
def b_j_liesWell_49 (x0 : Nat) (x6 : Int32) (h : XH) : Option (Int32 × XH) := (if x0 < hz h ∧ hk h x0 = 5 then (match f_j_wrong x0 10 (Int32.toInt64 x6) h with | none => none | some r2 => (if r2.1 = 0 ∨ r2.1 = 1 then (some (r2.1, r2.2)) else none)) else none)
set_option maxRecDepth 20000 in
theorem kb_j_liesWell_49 {l : Launch} {G : XG} {d : Nat} {x0 : Nat} {x6 : Int32} {h : XH} {r : Int32 × XH} (L0 : LY h) (hf : b_j_liesWell_49 x0 x6 h = some r) : XR l G xEX5_liesWell (d + 1) (49, [some (.ref x0), none, none, none, none, none, some (.int x6), none], [], h) (fun C => ∃ v, xRet xEX5_liesWell C v ∧ (C.2.2.2 = r.2 ∧ v = some (.int r.1)) ∧ LY r.2) := by
  unfold b_j_liesWell_49 at hf
  refine XS.go (s_aloadn rfl rfl rfl) ?_
  refine XS.go (s_bipush (v := 10) rfl rfl) ?_
  refine XS.go (s_iload rfl rfl) ?_
  refine XS.go (s_i2l rfl) ?_
  by_cases qk1 : x0 < hz h ∧ hk h x0 = 5
  rotate_left
  · rw [if_neg qk1] at hf; cases hf
  rw [if_pos qk1] at hf
  rcases e3 : f_j_wrong x0 10 (Int32.toInt64 x6) h with _ | r2
  · rw [e3] at hf; cases hf
  rw [e3] at hf; dsimp only at hf
  refine r_callv rfl xvX5_wrong xm5_32 (kf_j_wrong (d := d) L0 e3) qk1.1 qk1.2 (by decide) rfl rfl (by omega) (by decide) (Nat.le_of_ble_eq_true rfl) ?_
  rintro _ _ ⟨⟨rfl, rfl⟩, L4⟩
  by_cases qk5 : r2.1 = 0 ∨ r2.1 = 1
  rotate_left
  · rw [if_neg qk5] at hf; cases hf
  rw [if_pos qk5] at hf
  cases hf
  exact XR.retz rfl rfl qk5 (fun hret => ⟨_, hret, ⟨rfl, rfl⟩, L4⟩)
def f_j_liesWell (t : Nat) (a0 : Int32) (a1 : Int32) (a2 : Int32) (a3 : Int32) (a4 : Int32) (h : XH) : Option (Int32 × XH) := (if t < hz h ∧ hk h t = 5 then (match hr h t 1 with | none => none | some b7 => (if b7 < hz h ∧ hk h b7 = 1 then (match f_b_number b7 ((a1 + 4) + (2 * a2)) 2 h with | none => none | some r10 => (if (Int64.toInt32 r10.1) < 4 then (b_j_liesWell_49 t ((a1 + 4) + (2 * a2)) r10.2) else (if t < hz r10.2 ∧ hk r10.2 t = 5 then (match hr r10.2 t 1 with | none => none | some b15 => (if b15 < hz r10.2 ∧ hk r10.2 b15 = 1 then (match f_b_number b15 (a1 + 2) 2 r10.2 with | none => none | some r18 => (if (lg_cmp (Int32.toInt64 ((Int64.toInt32 r10.1) + a3)) r18.1) ≤ 0 then (match f_t_isAligned (a0 + (Int64.toInt32 r10.1)) a4 r18.2 with | none => none | some r22 => (if ¬ r22.1 = 0 then (b_j_liesWell_82 r22.2) else (if t < hz r22.2 ∧ hk r22.2 t = 5 then (match f_j_wrong t 3 (Int32.toInt64 ((a1 + 4) + (2 * a2))) r22.2 with | none => none | some r27 => (if r27.1 = 0 then (some (0, r27.2)) else (b_j_liesWell_82 r27.2))) else none))) else (b_j_liesWell_49 t ((a1 + 4) + (2 * a2)) r18.2))) else none)) else none))) else none)) else none)
set_option maxRecDepth 20000 in
theorem kf_j_liesWell {l : Launch} {G : XG} {d : Nat} {t : Nat} {a0 : Int32} {a1 : Int32} {a2 : Int32} {a3 : Int32} {a4 : Int32} {h : XH} {r : Int32 × XH} (L0 : LY h) (hf : f_j_liesWell t a0 a1 a2 a3 a4 h = some r) : XC l G xEX5_liesWell (d + 1) [.ref t, .int a0, .int a1, .int a2, .int a3, .int a4] h (fun v h2 => (h2 = r.2 ∧ v = some (.int r.1)) ∧ LY r.2) := by
  refine XC.virt xvX5_liesWell (Nat.le_of_ble_eq_true rfl) ?_
  unfold f_j_liesWell at hf
  refine XS.go (s_iloadn rfl rfl rfl) ?_
  refine XS.go (s_iconst (v := 4) rfl rfl) ?_
  refine XS.go (s_iadd rfl) ?_
  refine XS.go (s_iconst (v := 2) rfl rfl) ?_
  refine XS.go (s_iloadn rfl rfl rfl) ?_
  refine XS.go (s_imul rfl) ?_
  refine XS.go (s_iadd rfl) ?_
  refine XS.go (s_istore rfl (Nat.le_of_ble_eq_true rfl)) ?_
  refine XS.go (s_aloadn rfl rfl rfl) ?_
  by_cases qk6 : t < hz h ∧ hk h t = 5
  rotate_left
  · rw [if_neg qk6] at hf; cases hf
  rw [if_pos qk6] at hf
  rcases qr8 : hr h t 1 with _ | b7
  · rw [qr8] at hf; cases hf
  rw [qr8] at hf; dsimp only at hf
  refine XS.go (s_getr rfl xf5_25 qk6.1 qk6.2 (by decide) rfl qr8) ?_
  refine XS.go (s_iload rfl rfl) ?_
  refine XS.go (s_iconst (v := 2) rfl rfl) ?_
  by_cases qk9 : b7 < hz h ∧ hk h b7 = 1
  rotate_left
  · rw [if_neg qk9] at hf; cases hf
  rw [if_pos qk9] at hf
  rcases e11 : f_b_number b7 ((a1 + 4) + (2 * a2)) 2 h with _ | r10
  · rw [e11] at hf; cases hf
  rw [e11] at hf; dsimp only at hf
  refine r_callv rfl xvX1_number xm5_45 (kf_b_number (d := d) L0 e11) qk9.1 qk9.2 (by decide) rfl rfl (by omega) (by decide) (Nat.le_of_ble_eq_true rfl) ?_
  rintro _ _ ⟨⟨rfl, rfl⟩, L12⟩
  refine XS.go (s_l2i rfl) ?_
  refine XS.go (s_istore rfl (Nat.le_of_ble_eq_true rfl)) ?_
  refine XS.go (s_iload rfl rfl) ?_
  refine XS.go (s_iconst (v := 4) rfl rfl) ?_
  refine r_icmp_lt (tgt := 49) rfl rfl (fun qc13 => ?_) (fun qc13 => ?_)
  · rw [if_pos qc13] at hf
    exact XR.forget (L2 := [some (.ref t), none, none, none, none, none, some (.int ((a1 + 4) + (2 * a2))), none]) ⟨rfl, ⟨rfl, trivial⟩⟩ (kb_j_liesWell_49 L12 hf)
  · rw [if_neg qc13] at hf
    refine XS.go (s_iload rfl rfl) ?_
    refine XS.go (s_iload rfl rfl) ?_
    refine XS.go (s_iadd rfl) ?_
    refine XS.go (s_i2l rfl) ?_
    refine XS.go (s_aloadn rfl rfl rfl) ?_
    by_cases qk14 : t < hz r10.2 ∧ hk r10.2 t = 5
    rotate_left
    · rw [if_neg qk14] at hf; cases hf
    rw [if_pos qk14] at hf
    rcases qr16 : hr r10.2 t 1 with _ | b15
    · rw [qr16] at hf; cases hf
    rw [qr16] at hf; dsimp only at hf
    refine XS.go (s_getr rfl xf5_25 qk14.1 qk14.2 (by decide) rfl qr16) ?_
    refine XS.go (s_iloadn rfl rfl rfl) ?_
    refine XS.go (s_iconst (v := 2) rfl rfl) ?_
    refine XS.go (s_iadd rfl) ?_
    refine XS.go (s_iconst (v := 2) rfl rfl) ?_
    by_cases qk17 : b15 < hz r10.2 ∧ hk r10.2 b15 = 1
    rotate_left
    · rw [if_neg qk17] at hf; cases hf
    rw [if_pos qk17] at hf
    rcases e19 : f_b_number b15 (a1 + 2) 2 r10.2 with _ | r18
    · rw [e19] at hf; cases hf
    rw [e19] at hf; dsimp only at hf
    refine r_callv rfl xvX1_number xm5_45 (kf_b_number (d := d) L12 e19) qk17.1 qk17.2 (by decide) rfl rfl (by omega) (by decide) (Nat.le_of_ble_eq_true rfl) ?_
    rintro _ _ ⟨⟨rfl, rfl⟩, L20⟩
    refine XS.go (s_lcmp rfl) ?_
    refine r_if_le (tgt := 59) rfl rfl (fun qc21 => ?_) (fun qc21 => ?_)
    · rw [if_pos qc21] at hf
      refine XS.go (s_iloadn rfl rfl rfl) ?_
      refine XS.go (s_iload rfl rfl) ?_
      refine XS.go (s_iadd rfl) ?_
      refine XS.go (s_iload rfl rfl) ?_
      rcases e23 : f_t_isAligned (a0 + (Int64.toInt32 r10.1)) a4 r18.2 with _ | r22
      · rw [e23] at hf; cases hf
      rw [e23] at hf; dsimp only at hf
      refine r_callsn rfl xsX11_isAligned (List.mem_of_getElem? (i := 11) rfl) (kf_t_isAligned (d := d) L20 e23) rfl rfl (by omega) (by decide) (Nat.le_of_ble_eq_true rfl) ?_
      rintro _ _ ⟨⟨rfl, rfl⟩, L24⟩
      refine r_if_ne (tgt := 82) rfl rfl (fun qc25 => ?_) (fun qc25 => ?_)
      · rw [if_pos qc25] at hf
        exact XR.forget (L2 := [none, none, none, none, none, none, none, none]) trivial (kb_j_liesWell_82 L24 hf)
      · rw [if_neg qc25] at hf
        refine XS.go (s_aloadn rfl rfl rfl) ?_
        refine XS.go (s_iconst (v := 3) rfl rfl) ?_
        refine XS.go (s_iload rfl rfl) ?_
        refine XS.go (s_i2l rfl) ?_
        by_cases qk26 : t < hz r22.2 ∧ hk r22.2 t = 5
        rotate_left
        · rw [if_neg qk26] at hf; cases hf
        rw [if_pos qk26] at hf
        rcases e28 : f_j_wrong t 3 (Int32.toInt64 ((a1 + 4) + (2 * a2))) r22.2 with _ | r27
        · rw [e28] at hf; cases hf
        rw [e28] at hf; dsimp only at hf
        refine r_callv rfl xvX5_wrong xm5_32 (kf_j_wrong (d := d) L24 e28) qk26.1 qk26.2 (by decide) rfl rfl (by omega) (by decide) (Nat.le_of_ble_eq_true rfl) ?_
        rintro _ _ ⟨⟨rfl, rfl⟩, L29⟩
        refine r_if_eq (tgt := 86) rfl rfl (fun qc30 => ?_) (fun qc30 => ?_)
        · rw [if_pos qc30] at hf
          refine XS.go (s_iconst (v := 0) rfl rfl) ?_
          cases hf
          exact XR.retz rfl rfl (by decide) (fun hret => ⟨_, hret, ⟨rfl, rfl⟩, L29⟩)
        · rw [if_neg qc30] at hf
          exact XR.forget (L2 := [none, none, none, none, none, none, none, none]) trivial (kb_j_liesWell_82 L29 hf)
    · rw [if_neg qc21] at hf
      exact XR.forget (L2 := [some (.ref t), none, none, none, none, none, some (.int ((a1 + 4) + (2 * a2))), none]) ⟨rfl, ⟨rfl, trivial⟩⟩ (kb_j_liesWell_49 L20 hf)
def b_j_isList_148 (h : XH) : Option (Int32 × XH) := (some (1, h))
set_option maxRecDepth 20000 in
theorem kb_j_isList_148 {l : Launch} {G : XG} {d : Nat} {h : XH} {r : Int32 × XH} (L0 : LY h) (hf : b_j_isList_148 h = some r) : XR l G xEX5_isList (d + 2) (148, [none, none, none, none, none, none, none, none], [], h) (fun C => ∃ v, xRet xEX5_isList C v ∧ (C.2.2.2 = r.2 ∧ v = some (.int r.1)) ∧ LY r.2) := by
  unfold b_j_isList_148 at hf
  refine XS.go (s_iconst (v := 1) rfl rfl) ?_
  refine XS.go (s_goto (tgt := 153) rfl rfl) ?_
  cases hf
  exact XR.retz rfl rfl (by decide) (fun hret => ⟨_, hret, ⟨rfl, rfl⟩, L0⟩)
def b_j_isList_134 (x0 : Nat) (x2 : Int64) (h : XH) : Option (Int32 × XH) := (if x0 < hz h ∧ hk h x0 = 5 then (match f_j_wrong x0 8 (x2 + 2) h with | none => none | some r2 => (if r2.1 = 0 then (some (0, r2.2)) else (b_j_isList_148 r2.2))) else none)
set_option maxRecDepth 20000 in
theorem kb_j_isList_134 {l : Launch} {G : XG} {d : Nat} {x0 : Nat} {x2 : Int64} {h : XH} {r : Int32 × XH} (L0 : LY h) (hf : b_j_isList_134 x0 x2 h = some r) : XR l G xEX5_isList (d + 2) (134, [some (.ref x0), none, some (.long x2), none, none, none, none, none], [], h) (fun C => ∃ v, xRet xEX5_isList C v ∧ (C.2.2.2 = r.2 ∧ v = some (.int r.1)) ∧ LY r.2) := by
  unfold b_j_isList_134 at hf
  refine XS.go (s_aloadn rfl rfl rfl) ?_
  refine XS.go (s_bipush (v := 8) rfl rfl) ?_
  refine XS.go (s_lloadn rfl rfl rfl) ?_
  refine XS.go (s_ldc2 rfl (lg_3 229 rfl rfl)) ?_
  refine XS.go (s_ladd rfl) ?_
  by_cases qk1 : x0 < hz h ∧ hk h x0 = 5
  rotate_left
  · rw [if_neg qk1] at hf; cases hf
  rw [if_pos qk1] at hf
  rcases e3 : f_j_wrong x0 8 (x2 + 2) h with _ | r2
  · rw [e3] at hf; cases hf
  rw [e3] at hf; dsimp only at hf
  refine r_callv rfl xvX5_wrong xm5_32 (kf_j_wrong (d := d) L0 e3) qk1.1 qk1.2 (by decide) rfl rfl (by omega) (by decide) (Nat.le_of_ble_eq_true rfl) ?_
  rintro _ _ ⟨⟨rfl, rfl⟩, L4⟩
  refine r_if_eq (tgt := 152) rfl rfl (fun qc5 => ?_) (fun qc5 => ?_)
  · rw [if_pos qc5] at hf
    refine XS.go (s_iconst (v := 0) rfl rfl) ?_
    cases hf
    exact XR.retz rfl rfl (by decide) (fun hret => ⟨_, hret, ⟨rfl, rfl⟩, L4⟩)
  · rw [if_neg qc5] at hf
    exact XR.forget (L2 := [none, none, none, none, none, none, none, none]) trivial (kb_j_isList_148 L4 hf)
def b_j_isList_89 (x0 : Nat) (x2 : Int64) (h : XH) : Option (Int32 × XH) := (if x0 < hz h ∧ hk h x0 = 5 then (match f_j_wrong x0 7 x2 h with | none => none | some r7 => (if r7.1 = 0 ∨ r7.1 = 1 then (some (r7.1, r7.2)) else none)) else none)
set_option maxRecDepth 20000 in
theorem kb_j_isList_89 {l : Launch} {G : XG} {d : Nat} {x0 : Nat} {x2 : Int64} {h : XH} {r : Int32 × XH} (L0 : LY h) (hf : b_j_isList_89 x0 x2 h = some r) : XR l G xEX5_isList (d + 2) (89, [some (.ref x0), none, some (.long x2), none, none, none, none, none], [], h) (fun C => ∃ v, xRet xEX5_isList C v ∧ (C.2.2.2 = r.2 ∧ v = some (.int r.1)) ∧ LY r.2) := by
  unfold b_j_isList_89 at hf
  refine XS.go (s_aloadn rfl rfl rfl) ?_
  refine XS.go (s_bipush (v := 7) rfl rfl) ?_
  refine XS.go (s_lloadn rfl rfl rfl) ?_
  by_cases qk6 : x0 < hz h ∧ hk h x0 = 5
  rotate_left
  · rw [if_neg qk6] at hf; cases hf
  rw [if_pos qk6] at hf
  rcases e8 : f_j_wrong x0 7 x2 h with _ | r7
  · rw [e8] at hf; cases hf
  rw [e8] at hf; dsimp only at hf
  refine r_callv rfl xvX5_wrong xm5_32 (kf_j_wrong (d := d) L0 e8) qk6.1 qk6.2 (by decide) rfl rfl (by omega) (by decide) (Nat.le_of_ble_eq_true rfl) ?_
  rintro _ _ ⟨⟨rfl, rfl⟩, L9⟩
  by_cases qk10 : r7.1 = 0 ∨ r7.1 = 1
  rotate_left
  · rw [if_neg qk10] at hf; cases hf
  rw [if_pos qk10] at hf
  cases hf
  exact XR.retz rfl rfl qk10 (fun hret => ⟨_, hret, ⟨rfl, rfl⟩, L9⟩)
def b_j_isList_37 (x0 : Nat) (x1 : Int32) (h : XH) : Option (Int32 × XH) := (if x0 < hz h ∧ hk h x0 = 5 then (match f_j_wrong x0 6 (Int32.toInt64 x1) h with | none => none | some r12 => (if r12.1 = 0 ∨ r12.1 = 1 then (some (r12.1, r12.2)) else none)) else none)
set_option maxRecDepth 20000 in
theorem kb_j_isList_37 {l : Launch} {G : XG} {d : Nat} {x0 : Nat} {x1 : Int32} {h : XH} {r : Int32 × XH} (L0 : LY h) (hf : b_j_isList_37 x0 x1 h = some r) : XR l G xEX5_isList (d + 2) (37, [some (.ref x0), some (.int x1), none, none, none, none, none, none], [], h) (fun C => ∃ v, xRet xEX5_isList C v ∧ (C.2.2.2 = r.2 ∧ v = some (.int r.1)) ∧ LY r.2) := by
  unfold b_j_isList_37 at hf
  refine XS.go (s_aloadn rfl rfl rfl) ?_
  refine XS.go (s_bipush (v := 6) rfl rfl) ?_
  refine XS.go (s_iloadn rfl rfl rfl) ?_
  refine XS.go (s_i2l rfl) ?_
  by_cases qk11 : x0 < hz h ∧ hk h x0 = 5
  rotate_left
  · rw [if_neg qk11] at hf; cases hf
  rw [if_pos qk11] at hf
  rcases e13 : f_j_wrong x0 6 (Int32.toInt64 x1) h with _ | r12
  · rw [e13] at hf; cases hf
  rw [e13] at hf; dsimp only at hf
  refine r_callv rfl xvX5_wrong xm5_32 (kf_j_wrong (d := d) L0 e13) qk11.1 qk11.2 (by decide) rfl rfl (by omega) (by decide) (Nat.le_of_ble_eq_true rfl) ?_
  rintro _ _ ⟨⟨rfl, rfl⟩, L14⟩
  by_cases qk15 : r12.1 = 0 ∨ r12.1 = 1
  rotate_left
  · rw [if_neg qk15] at hf; cases hf
  rw [if_pos qk15] at hf
  cases hf
  exact XR.retz rfl rfl qk15 (fun hret => ⟨_, hret, ⟨rfl, rfl⟩, L14⟩)
def f_j_isList (t : Nat) (a0 : Int32) (h : XH) : Option (Int32 × XH) := (if t < hz h ∧ hk h t = 5 then (match hr h t 1 with | none => none | some b17 => (if b17 < hz h ∧ hk h b17 = 1 then (match f_b_listOf b17 a0 h with | none => none | some r20 => (if (lg_cmp r20.1 0) < 0 then (b_j_isList_37 t a0 r20.2) else (if ¬ (lg_cmp (r20.1 &&& 1) 0) = 0 then (b_j_isList_37 t a0 r20.2) else (if t < hz r20.2 ∧ hk r20.2 t = 5 then (if (lg_cmp (r20.1 + 4) (Int32.toInt64 (hi r20.2 t 2))) ≤ 0 then (match hr r20.2 t 1 with | none => none | some b27 => (if b27 < hz r20.2 ∧ hk r20.2 b27 = 1 then (match f_b_number b27 (Int64.toInt32 r20.1) 2 r20.2 with | none => none | some r30 => (if (lg_cmp r30.1 4) < 0 then (b_j_isList_89 t r20.1 r30.2) else (if ¬ (lg_cmp (r30.1 &&& 1) 0) = 0 then (b_j_isList_89 t r20.1 r30.2) else (if t < hz r30.2 ∧ hk r30.2 t = 5 then (if (lg_cmp (r20.1 + r30.1) (Int32.toInt64 (hi r30.2 t 2))) ≤ 0 then (match hr r30.2 t 1 with | none => none | some b37 => (if b37 < hz r30.2 ∧ hk r30.2 b37 = 1 then (match f_b_number b37 ((Int64.toInt32 r20.1) + 2) 2 r30.2 with | none => none | some r40 => (if (lg_cmp r40.1 4) < 0 then (b_j_isList_134 t r20.1 r40.2) else (if t < hz r40.2 ∧ hk r40.2 t = 5 then (if (lg_cmp ((Int32.toInt64 a0) + r40.1) (Int32.toInt64 (hi r40.2 t 2))) ≤ 0 then (b_j_isList_148 r40.2) else (b_j_isList_134 t r20.1 r40.2)) else none))) else none)) else (b_j_isList_89 t r20.1 r30.2)) else none)))) else none)) else (b_j_isList_37 t a0 r20.2)) else none)))) else none)) else none)
set_option maxRecDepth 20000 in
theorem kf_j_isList {l : Launch} {G : XG} {d : Nat} {t : Nat} {a0 : Int32} {h : XH} {r : Int32 × XH} (L0 : LY h) (hf : f_j_isList t a0 h = some r) : XC l G xEX5_isList (d + 2) [.ref t, .int a0] h (fun v h2 => (h2 = r.2 ∧ v = some (.int r.1)) ∧ LY r.2) := by
  refine XC.virt xvX5_isList (Nat.le_of_ble_eq_true rfl) ?_
  unfold f_j_isList at hf
  refine XS.go (s_aloadn rfl rfl rfl) ?_
  by_cases qk16 : t < hz h ∧ hk h t = 5
  rotate_left
  · rw [if_neg qk16] at hf; cases hf
  rw [if_pos qk16] at hf
  rcases qr18 : hr h t 1 with _ | b17
  · rw [qr18] at hf; cases hf
  rw [qr18] at hf; dsimp only at hf
  refine XS.go (s_getr rfl xf5_25 qk16.1 qk16.2 (by decide) rfl qr18) ?_
  refine XS.go (s_iloadn rfl rfl rfl) ?_
  by_cases qk19 : b17 < hz h ∧ hk h b17 = 1
  rotate_left
  · rw [if_neg qk19] at hf; cases hf
  rw [if_pos qk19] at hf
  rcases e21 : f_b_listOf b17 a0 h with _ | r20
  · rw [e21] at hf; cases hf
  rw [e21] at hf; dsimp only at hf
  refine r_callv rfl xvX1_listOf xm5_76 (kf_b_listOf (d := d) L0 e21) qk19.1 qk19.2 (by decide) rfl rfl (by omega) (by decide) (Nat.le_of_ble_eq_true rfl) ?_
  rintro _ _ ⟨⟨rfl, rfl⟩, L22⟩
  refine XS.go (s_lstoren rfl rfl (Nat.le_of_ble_eq_true rfl)) ?_
  refine XS.go (s_lloadn rfl rfl rfl) ?_
  refine XS.go (s_lconst (v := 0) rfl rfl) ?_
  refine XS.go (s_lcmp rfl) ?_
  refine r_if_lt (tgt := 37) rfl rfl (fun qc23 => ?_) (fun qc23 => ?_)
  · rw [if_pos qc23] at hf
    exact XR.forget (L2 := [some (.ref t), some (.int a0), none, none, none, none, none, none]) ⟨rfl, ⟨rfl, trivial⟩⟩ (kb_j_isList_37 L22 hf)
  · rw [if_neg qc23] at hf
    refine XS.go (s_lloadn rfl rfl rfl) ?_
    refine XS.go (s_lconst (v := 1) rfl rfl) ?_
    refine XS.go (s_land rfl) ?_
    refine XS.go (s_lconst (v := 0) rfl rfl) ?_
    refine XS.go (s_lcmp rfl) ?_
    refine r_if_ne (tgt := 37) rfl rfl (fun qc24 => ?_) (fun qc24 => ?_)
    · rw [if_pos qc24] at hf
      exact XR.forget (L2 := [some (.ref t), some (.int a0), none, none, none, none, none, none]) ⟨rfl, ⟨rfl, trivial⟩⟩ (kb_j_isList_37 L22 hf)
    · rw [if_neg qc24] at hf
      refine XS.go (s_lloadn rfl rfl rfl) ?_
      refine XS.go (s_ldc2 rfl (lg_3 220 rfl rfl)) ?_
      refine XS.go (s_ladd rfl) ?_
      refine XS.go (s_aloadn rfl rfl rfl) ?_
      by_cases qk25 : t < hz r20.2 ∧ hk r20.2 t = 5
      rotate_left
      · rw [if_neg qk25] at hf; cases hf
      rw [if_pos qk25] at hf
      refine XS.go (s_getie rfl xf5_29 qk25.1 qk25.2 (by decide) rfl rfl) ?_
      refine XS.go (s_i2l rfl) ?_
      refine XS.go (s_lcmp rfl) ?_
      refine r_if_le (tgt := 46) rfl rfl (fun qc26 => ?_) (fun qc26 => ?_)
      · rw [if_pos qc26] at hf
        refine XS.go (s_aloadn rfl rfl rfl) ?_
        rcases qr28 : hr r20.2 t 1 with _ | b27
        · rw [qr28] at hf; cases hf
        rw [qr28] at hf; dsimp only at hf
        refine XS.go (s_getr rfl xf5_25 qk25.1 qk25.2 (by decide) rfl qr28) ?_
        refine XS.go (s_lloadn rfl rfl rfl) ?_
        refine XS.go (s_l2i rfl) ?_
        refine XS.go (s_iconst (v := 2) rfl rfl) ?_
        by_cases qk29 : b27 < hz r20.2 ∧ hk r20.2 b27 = 1
        rotate_left
        · rw [if_neg qk29] at hf; cases hf
        rw [if_pos qk29] at hf
        rcases e31 : f_b_number b27 (Int64.toInt32 r20.1) 2 r20.2 with _ | r30
        · rw [e31] at hf; cases hf
        rw [e31] at hf; dsimp only at hf
        refine r_callv rfl xvX1_number xm5_45 (kf_b_number (d := d) L22 e31) qk29.1 qk29.2 (by decide) rfl rfl (by omega) (by decide) (Nat.le_of_ble_eq_true rfl) ?_
        rintro _ _ ⟨⟨rfl, rfl⟩, L32⟩
        refine XS.go (s_lstore rfl (Nat.le_of_ble_eq_true rfl)) ?_
        refine XS.go (s_lload rfl rfl) ?_
        refine XS.go (s_ldc2 rfl (lg_3 220 rfl rfl)) ?_
        refine XS.go (s_lcmp rfl) ?_
        refine r_if_lt (tgt := 89) rfl rfl (fun qc33 => ?_) (fun qc33 => ?_)
        · rw [if_pos qc33] at hf
          exact XR.forget (L2 := [some (.ref t), none, some (.long r20.1), none, none, none, none, none]) ⟨rfl, ⟨rfl, trivial⟩⟩ (kb_j_isList_89 L32 hf)
        · rw [if_neg qc33] at hf
          refine XS.go (s_lload rfl rfl) ?_
          refine XS.go (s_lconst (v := 1) rfl rfl) ?_
          refine XS.go (s_land rfl) ?_
          refine XS.go (s_lconst (v := 0) rfl rfl) ?_
          refine XS.go (s_lcmp rfl) ?_
          refine r_if_ne (tgt := 89) rfl rfl (fun qc34 => ?_) (fun qc34 => ?_)
          · rw [if_pos qc34] at hf
            exact XR.forget (L2 := [some (.ref t), none, some (.long r20.1), none, none, none, none, none]) ⟨rfl, ⟨rfl, trivial⟩⟩ (kb_j_isList_89 L32 hf)
          · rw [if_neg qc34] at hf
            refine XS.go (s_lloadn rfl rfl rfl) ?_
            refine XS.go (s_lload rfl rfl) ?_
            refine XS.go (s_ladd rfl) ?_
            refine XS.go (s_aloadn rfl rfl rfl) ?_
            by_cases qk35 : t < hz r30.2 ∧ hk r30.2 t = 5
            rotate_left
            · rw [if_neg qk35] at hf; cases hf
            rw [if_pos qk35] at hf
            refine XS.go (s_getie rfl xf5_29 qk35.1 qk35.2 (by decide) rfl rfl) ?_
            refine XS.go (s_i2l rfl) ?_
            refine XS.go (s_lcmp rfl) ?_
            refine r_if_le (tgt := 97) rfl rfl (fun qc36 => ?_) (fun qc36 => ?_)
            · rw [if_pos qc36] at hf
              refine XS.go (s_aloadn rfl rfl rfl) ?_
              rcases qr38 : hr r30.2 t 1 with _ | b37
              · rw [qr38] at hf; cases hf
              rw [qr38] at hf; dsimp only at hf
              refine XS.go (s_getr rfl xf5_25 qk35.1 qk35.2 (by decide) rfl qr38) ?_
              refine XS.go (s_lloadn rfl rfl rfl) ?_
              refine XS.go (s_l2i rfl) ?_
              refine XS.go (s_iconst (v := 2) rfl rfl) ?_
              refine XS.go (s_iadd rfl) ?_
              refine XS.go (s_iconst (v := 2) rfl rfl) ?_
              by_cases qk39 : b37 < hz r30.2 ∧ hk r30.2 b37 = 1
              rotate_left
              · rw [if_neg qk39] at hf; cases hf
              rw [if_pos qk39] at hf
              rcases e41 : f_b_number b37 ((Int64.toInt32 r20.1) + 2) 2 r30.2 with _ | r40
              · rw [e41] at hf; cases hf
              rw [e41] at hf; dsimp only at hf
              refine r_callv rfl xvX1_number xm5_45 (kf_b_number (d := d) L32 e41) qk39.1 qk39.2 (by decide) rfl rfl (by omega) (by decide) (Nat.le_of_ble_eq_true rfl) ?_
              rintro _ _ ⟨⟨rfl, rfl⟩, L42⟩
              refine XS.go (s_lstore rfl (Nat.le_of_ble_eq_true rfl)) ?_
              refine XS.go (s_lload rfl rfl) ?_
              refine XS.go (s_ldc2 rfl (lg_3 220 rfl rfl)) ?_
              refine XS.go (s_lcmp rfl) ?_
              refine r_if_lt (tgt := 134) rfl rfl (fun qc43 => ?_) (fun qc43 => ?_)
              · rw [if_pos qc43] at hf
                exact XR.forget (L2 := [some (.ref t), none, some (.long r20.1), none, none, none, none, none]) ⟨rfl, ⟨rfl, trivial⟩⟩ (kb_j_isList_134 L42 hf)
              · rw [if_neg qc43] at hf
                refine XS.go (s_iloadn rfl rfl rfl) ?_
                refine XS.go (s_i2l rfl) ?_
                refine XS.go (s_lload rfl rfl) ?_
                refine XS.go (s_ladd rfl) ?_
                refine XS.go (s_aloadn rfl rfl rfl) ?_
                by_cases qk44 : t < hz r40.2 ∧ hk r40.2 t = 5
                rotate_left
                · rw [if_neg qk44] at hf; cases hf
                rw [if_pos qk44] at hf
                refine XS.go (s_getie rfl xf5_29 qk44.1 qk44.2 (by decide) rfl rfl) ?_
                refine XS.go (s_i2l rfl) ?_
                refine XS.go (s_lcmp rfl) ?_
                refine r_if_le (tgt := 148) rfl rfl (fun qc45 => ?_) (fun qc45 => ?_)
                · rw [if_pos qc45] at hf
                  exact XR.forget (L2 := [none, none, none, none, none, none, none, none]) trivial (kb_j_isList_148 L42 hf)
                · rw [if_neg qc45] at hf
                  exact XR.forget (L2 := [some (.ref t), none, some (.long r20.1), none, none, none, none, none]) ⟨rfl, ⟨rfl, trivial⟩⟩ (kb_j_isList_134 L42 hf)
            · rw [if_neg qc36] at hf
              exact XR.forget (L2 := [some (.ref t), none, some (.long r20.1), none, none, none, none, none]) ⟨rfl, ⟨rfl, trivial⟩⟩ (kb_j_isList_89 L32 hf)
      · rw [if_neg qc26] at hf
        exact XR.forget (L2 := [some (.ref t), some (.int a0), none, none, none, none, none, none]) ⟨rfl, ⟨rfl, trivial⟩⟩ (kb_j_isList_37 L22 hf)
def f_x_kind (a0 : Int32) (h : XH) : Option (Int32 × XH) := (if a0 < 0 then (some (0, h)) else (if (hi h 7 4) ≤ a0 then (some (0, h)) else (if (nI 4001) ≤ a0 then (some (0, h)) else (some ((hi h 8 (Int32.toNatClampNeg a0)), h)))))
set_option maxRecDepth 20000 in
theorem kf_x_kind {l : Launch} {G : XG} {d : Nat} {a0 : Int32} {h : XH} {r : Int32 × XH} (L0 : LY h) (hf : f_x_kind a0 h = some r) : XC l G xEX6_kind d [.ref 7, .int a0] h (fun v h2 => (h2 = r.2 ∧ v = some (.int r.1)) ∧ LY r.2) := by
  refine XC.virt xvX6_kind (Nat.le_of_ble_eq_true rfl) ?_
  unfold f_x_kind at hf
  refine XS.go (s_iloadn rfl rfl rfl) ?_
  refine r_if_lt (tgt := 30) rfl rfl (fun qc1 => ?_) (fun qc1 => ?_)
  · rw [if_pos qc1] at hf
    refine XS.go (s_iconst (v := 0) rfl rfl) ?_
    cases hf
    exact XR.reti rfl rfl (fun hret => ⟨_, hret, ⟨rfl, rfl⟩, L0⟩)
  · rw [if_neg qc1] at hf
    refine XS.go (s_iloadn rfl rfl rfl) ?_
    refine XS.go (s_aloadn rfl rfl rfl) ?_
    refine XS.go (s_getie rfl xf6_25 (LY.lt L0 (by decide)) (LY.k7 L0) (by decide) rfl rfl) ?_
    refine r_icmp_ge (tgt := 30) rfl rfl (fun qc2 => ?_) (fun qc2 => ?_)
    · rw [if_pos qc2] at hf
      refine XS.go (s_iconst (v := 0) rfl rfl) ?_
      cases hf
      exact XR.reti rfl rfl (fun hret => ⟨_, hret, ⟨rfl, rfl⟩, L0⟩)
    · rw [if_neg qc2] at hf
      refine XS.go (s_iloadn rfl rfl rfl) ?_
      refine XS.go (s_aloadn rfl rfl rfl) ?_
      refine XS.go (s_getr rfl xf6_9 (LY.lt L0 (by decide)) (LY.k7 L0) (by decide) rfl (LY.r7_0 L0)) ?_
      refine XS.go (s_alene rfl (LY.lt L0 (by decide)) (LY.k8 L0) (LY.n8 L0) (by decide)) ?_
      refine r_icmp_ge (tgt := 30) rfl rfl (fun qc3 => ?_) (fun qc3 => ?_)
      · rw [if_pos qc3] at hf
        refine XS.go (s_iconst (v := 0) rfl rfl) ?_
        cases hf
        exact XR.reti rfl rfl (fun hret => ⟨_, hret, ⟨rfl, rfl⟩, L0⟩)
      · rw [if_neg qc3] at hf
        refine XS.go (s_aloadn rfl rfl rfl) ?_
        refine XS.go (s_getr rfl xf6_9 (LY.lt L0 (by decide)) (LY.k7 L0) (by decide) rfl (LY.r7_0 L0)) ?_
        refine XS.go (s_iloadn rfl rfl rfl) ?_
        refine XS.go (s_ialde rfl (LY.lt L0 (by decide)) (LY.k8 L0) (in_of (N := 4001) (LY.n8 L0) (by decide) qc1 qc3) rfl) ?_
        refine XS.go (s_goto (tgt := 31) rfl rfl) ?_
        cases hf
        exact XR.reti rfl rfl (fun hret => ⟨_, hret, ⟨rfl, rfl⟩, L0⟩)
def f_x_place (a0 : Int32) (h : XH) : Option (Int32 × XH) := (if a0 < 0 then (some (0, h)) else (if (hi h 7 4) ≤ a0 then (some (0, h)) else (if (nI 4001) ≤ a0 then (some (0, h)) else (some ((hi h 9 (Int32.toNatClampNeg a0)), h)))))
set_option maxRecDepth 20000 in
theorem kf_x_place {l : Launch} {G : XG} {d : Nat} {a0 : Int32} {h : XH} {r : Int32 × XH} (L0 : LY h) (hf : f_x_place a0 h = some r) : XC l G xEX6_place d [.ref 7, .int a0] h (fun v h2 => (h2 = r.2 ∧ v = some (.int r.1)) ∧ LY r.2) := by
  refine XC.virt xvX6_place (Nat.le_of_ble_eq_true rfl) ?_
  unfold f_x_place at hf
  refine XS.go (s_iloadn rfl rfl rfl) ?_
  refine r_if_lt (tgt := 30) rfl rfl (fun qc1 => ?_) (fun qc1 => ?_)
  · rw [if_pos qc1] at hf
    refine XS.go (s_iconst (v := 0) rfl rfl) ?_
    cases hf
    exact XR.reti rfl rfl (fun hret => ⟨_, hret, ⟨rfl, rfl⟩, L0⟩)
  · rw [if_neg qc1] at hf
    refine XS.go (s_iloadn rfl rfl rfl) ?_
    refine XS.go (s_aloadn rfl rfl rfl) ?_
    refine XS.go (s_getie rfl xf6_25 (LY.lt L0 (by decide)) (LY.k7 L0) (by decide) rfl rfl) ?_
    refine r_icmp_ge (tgt := 30) rfl rfl (fun qc2 => ?_) (fun qc2 => ?_)
    · rw [if_pos qc2] at hf
      refine XS.go (s_iconst (v := 0) rfl rfl) ?_
      cases hf
      exact XR.reti rfl rfl (fun hret => ⟨_, hret, ⟨rfl, rfl⟩, L0⟩)
    · rw [if_neg qc2] at hf
      refine XS.go (s_iloadn rfl rfl rfl) ?_
      refine XS.go (s_aloadn rfl rfl rfl) ?_
      refine XS.go (s_getr rfl xf6_15 (LY.lt L0 (by decide)) (LY.k7 L0) (by decide) rfl (LY.r7_1 L0)) ?_
      refine XS.go (s_alene rfl (LY.lt L0 (by decide)) (LY.k9 L0) (LY.n9 L0) (by decide)) ?_
      refine r_icmp_ge (tgt := 30) rfl rfl (fun qc3 => ?_) (fun qc3 => ?_)
      · rw [if_pos qc3] at hf
        refine XS.go (s_iconst (v := 0) rfl rfl) ?_
        cases hf
        exact XR.reti rfl rfl (fun hret => ⟨_, hret, ⟨rfl, rfl⟩, L0⟩)
      · rw [if_neg qc3] at hf
        refine XS.go (s_aloadn rfl rfl rfl) ?_
        refine XS.go (s_getr rfl xf6_15 (LY.lt L0 (by decide)) (LY.k7 L0) (by decide) rfl (LY.r7_1 L0)) ?_
        refine XS.go (s_iloadn rfl rfl rfl) ?_
        refine XS.go (s_ialde rfl (LY.lt L0 (by decide)) (LY.k9 L0) (in_of (N := 4001) (LY.n9 L0) (by decide) qc1 qc3) rfl) ?_
        refine XS.go (s_goto (tgt := 31) rfl rfl) ?_
        cases hf
        exact XR.reti rfl rfl (fun hret => ⟨_, hret, ⟨rfl, rfl⟩, L0⟩)
def f_x_head (a0 : Int32) (h : XH) : Option (Int64 × XH) := (if a0 < 0 then (some (0, h)) else (if (hi h 7 4) ≤ a0 then (some (0, h)) else (if (nI 4001) ≤ a0 then (some (0, h)) else (some ((hj h 10 (Int32.toNatClampNeg a0)), h)))))
set_option maxRecDepth 20000 in
theorem kf_x_head {l : Launch} {G : XG} {d : Nat} {a0 : Int32} {h : XH} {r : Int64 × XH} (L0 : LY h) (hf : f_x_head a0 h = some r) : XC l G xEX6_head d [.ref 7, .int a0] h (fun v h2 => (h2 = r.2 ∧ v = some (.long r.1)) ∧ LY r.2) := by
  refine XC.virt xvX6_head (Nat.le_of_ble_eq_true rfl) ?_
  unfold f_x_head at hf
  refine XS.go (s_iloadn rfl rfl rfl) ?_
  refine r_if_lt (tgt := 30) rfl rfl (fun qc1 => ?_) (fun qc1 => ?_)
  · rw [if_pos qc1] at hf
    refine XS.go (s_lconst (v := 0) rfl rfl) ?_
    cases hf
    exact XR.retl rfl rfl (fun hret => ⟨_, hret, ⟨rfl, rfl⟩, L0⟩)
  · rw [if_neg qc1] at hf
    refine XS.go (s_iloadn rfl rfl rfl) ?_
    refine XS.go (s_aloadn rfl rfl rfl) ?_
    refine XS.go (s_getie rfl xf6_25 (LY.lt L0 (by decide)) (LY.k7 L0) (by decide) rfl rfl) ?_
    refine r_icmp_ge (tgt := 30) rfl rfl (fun qc2 => ?_) (fun qc2 => ?_)
    · rw [if_pos qc2] at hf
      refine XS.go (s_lconst (v := 0) rfl rfl) ?_
      cases hf
      exact XR.retl rfl rfl (fun hret => ⟨_, hret, ⟨rfl, rfl⟩, L0⟩)
    · rw [if_neg qc2] at hf
      refine XS.go (s_iloadn rfl rfl rfl) ?_
      refine XS.go (s_aloadn rfl rfl rfl) ?_
      refine XS.go (s_getr rfl xf6_18 (LY.lt L0 (by decide)) (LY.k7 L0) (by decide) rfl (LY.r7_2 L0)) ?_
      refine XS.go (s_alene rfl (LY.lt L0 (by decide)) (LY.k10 L0) (LY.n10 L0) (by decide)) ?_
      refine r_icmp_ge (tgt := 30) rfl rfl (fun qc3 => ?_) (fun qc3 => ?_)
      · rw [if_pos qc3] at hf
        refine XS.go (s_lconst (v := 0) rfl rfl) ?_
        cases hf
        exact XR.retl rfl rfl (fun hret => ⟨_, hret, ⟨rfl, rfl⟩, L0⟩)
      · rw [if_neg qc3] at hf
        refine XS.go (s_aloadn rfl rfl rfl) ?_
        refine XS.go (s_getr rfl xf6_18 (LY.lt L0 (by decide)) (LY.k7 L0) (by decide) rfl (LY.r7_2 L0)) ?_
        refine XS.go (s_iloadn rfl rfl rfl) ?_
        refine XS.go (s_lalde rfl (LY.lt L0 (by decide)) (LY.k10 L0) (in_of (N := 4001) (LY.n10 L0) (by decide) qc1 qc3) rfl) ?_
        refine XS.go (s_goto (tgt := 31) rfl rfl) ?_
        cases hf
        exact XR.retl rfl rfl (fun hret => ⟨_, hret, ⟨rfl, rfl⟩, L0⟩)
def f_x_tail (a0 : Int32) (h : XH) : Option (Int64 × XH) := (if a0 < 0 then (some (0, h)) else (if (hi h 7 4) ≤ a0 then (some (0, h)) else (if (nI 4001) ≤ a0 then (some (0, h)) else (some ((hj h 11 (Int32.toNatClampNeg a0)), h)))))
set_option maxRecDepth 20000 in
theorem kf_x_tail {l : Launch} {G : XG} {d : Nat} {a0 : Int32} {h : XH} {r : Int64 × XH} (L0 : LY h) (hf : f_x_tail a0 h = some r) : XC l G xEX6_tail d [.ref 7, .int a0] h (fun v h2 => (h2 = r.2 ∧ v = some (.long r.1)) ∧ LY r.2) := by
  refine XC.virt xvX6_tail (Nat.le_of_ble_eq_true rfl) ?_
  unfold f_x_tail at hf
  refine XS.go (s_iloadn rfl rfl rfl) ?_
  refine r_if_lt (tgt := 30) rfl rfl (fun qc1 => ?_) (fun qc1 => ?_)
  · rw [if_pos qc1] at hf
    refine XS.go (s_lconst (v := 0) rfl rfl) ?_
    cases hf
    exact XR.retl rfl rfl (fun hret => ⟨_, hret, ⟨rfl, rfl⟩, L0⟩)
  · rw [if_neg qc1] at hf
    refine XS.go (s_iloadn rfl rfl rfl) ?_
    refine XS.go (s_aloadn rfl rfl rfl) ?_
    refine XS.go (s_getie rfl xf6_25 (LY.lt L0 (by decide)) (LY.k7 L0) (by decide) rfl rfl) ?_
    refine r_icmp_ge (tgt := 30) rfl rfl (fun qc2 => ?_) (fun qc2 => ?_)
    · rw [if_pos qc2] at hf
      refine XS.go (s_lconst (v := 0) rfl rfl) ?_
      cases hf
      exact XR.retl rfl rfl (fun hret => ⟨_, hret, ⟨rfl, rfl⟩, L0⟩)
    · rw [if_neg qc2] at hf
      refine XS.go (s_iloadn rfl rfl rfl) ?_
      refine XS.go (s_aloadn rfl rfl rfl) ?_
      refine XS.go (s_getr rfl xf6_22 (LY.lt L0 (by decide)) (LY.k7 L0) (by decide) rfl (LY.r7_3 L0)) ?_
      refine XS.go (s_alene rfl (LY.lt L0 (by decide)) (LY.k11 L0) (LY.n11 L0) (by decide)) ?_
      refine r_icmp_ge (tgt := 30) rfl rfl (fun qc3 => ?_) (fun qc3 => ?_)
      · rw [if_pos qc3] at hf
        refine XS.go (s_lconst (v := 0) rfl rfl) ?_
        cases hf
        exact XR.retl rfl rfl (fun hret => ⟨_, hret, ⟨rfl, rfl⟩, L0⟩)
      · rw [if_neg qc3] at hf
        refine XS.go (s_aloadn rfl rfl rfl) ?_
        refine XS.go (s_getr rfl xf6_22 (LY.lt L0 (by decide)) (LY.k7 L0) (by decide) rfl (LY.r7_3 L0)) ?_
        refine XS.go (s_iloadn rfl rfl rfl) ?_
        refine XS.go (s_lalde rfl (LY.lt L0 (by decide)) (LY.k11 L0) (in_of (N := 4001) (LY.n11 L0) (by decide) qc1 qc3) rfl) ?_
        refine XS.go (s_goto (tgt := 31) rfl rfl) ?_
        cases hf
        exact XR.retl rfl rfl (fun hret => ⟨_, hret, ⟨rfl, rfl⟩, L0⟩)
def f_x_isDigit (a0 : Int32) (h : XH) : Option (Int32 × XH) := (if a0 < 48 then (some (0, h)) else (if 57 < a0 then (some (0, h)) else (some (1, h))))
set_option maxRecDepth 20000 in
theorem kf_x_isDigit {l : Launch} {G : XG} {d : Nat} {a0 : Int32} {h : XH} {r : Int32 × XH} (L0 : LY h) (hf : f_x_isDigit a0 h = some r) : XC l G xEX6_isDigit d [.int a0] h (fun v h2 => (h2 = r.2 ∧ v = some (.int r.1)) ∧ LY r.2) := by
  refine XC.stat xsX6_isDigit (Nat.le_of_ble_eq_true rfl) ?_
  unfold f_x_isDigit at hf
  refine XS.go (s_iloadn rfl rfl rfl) ?_
  refine XS.go (s_bipush (v := 48) rfl rfl) ?_
  refine r_icmp_lt (tgt := 16) rfl rfl (fun qc1 => ?_) (fun qc1 => ?_)
  · rw [if_pos qc1] at hf
    refine XS.go (s_iconst (v := 0) rfl rfl) ?_
    cases hf
    exact XR.retz rfl rfl (by decide) (fun hret => ⟨_, hret, ⟨rfl, rfl⟩, L0⟩)
  · rw [if_neg qc1] at hf
    refine XS.go (s_iloadn rfl rfl rfl) ?_
    refine XS.go (s_bipush (v := 57) rfl rfl) ?_
    refine r_icmp_gt (tgt := 16) rfl rfl (fun qc2 => ?_) (fun qc2 => ?_)
    · rw [if_pos qc2] at hf
      refine XS.go (s_iconst (v := 0) rfl rfl) ?_
      cases hf
      exact XR.retz rfl rfl (by decide) (fun hret => ⟨_, hret, ⟨rfl, rfl⟩, L0⟩)
    · rw [if_neg qc2] at hf
      refine XS.go (s_iconst (v := 1) rfl rfl) ?_
      refine XS.go (s_goto (tgt := 17) rfl rfl) ?_
      cases hf
      exact XR.retz rfl rfl (by decide) (fun hret => ⟨_, hret, ⟨rfl, rfl⟩, L0⟩)
def b_x_isLetter_30 (h : XH) : Option (Int32 × XH) := (some (1, h))
set_option maxRecDepth 20000 in
theorem kb_x_isLetter_30 {l : Launch} {G : XG} {d : Nat} {h : XH} {r : Int32 × XH} (L0 : LY h) (hf : b_x_isLetter_30 h = some r) : XR l G xEX6_isLetter d (30, [none], [], h) (fun C => ∃ v, xRet xEX6_isLetter C v ∧ (C.2.2.2 = r.2 ∧ v = some (.int r.1)) ∧ LY r.2) := by
  unfold b_x_isLetter_30 at hf
  refine XS.go (s_iconst (v := 1) rfl rfl) ?_
  refine XS.go (s_goto (tgt := 35) rfl rfl) ?_
  cases hf
  exact XR.retz rfl rfl (by decide) (fun hret => ⟨_, hret, ⟨rfl, rfl⟩, L0⟩)
def b_x_isLetter_24 (x0 : Int32) (h : XH) : Option (Int32 × XH) := (if ¬ x0 = 95 then (some (0, h)) else (b_x_isLetter_30 h))
set_option maxRecDepth 20000 in
theorem kb_x_isLetter_24 {l : Launch} {G : XG} {d : Nat} {x0 : Int32} {h : XH} {r : Int32 × XH} (L0 : LY h) (hf : b_x_isLetter_24 x0 h = some r) : XR l G xEX6_isLetter d (24, [some (.int x0)], [], h) (fun C => ∃ v, xRet xEX6_isLetter C v ∧ (C.2.2.2 = r.2 ∧ v = some (.int r.1)) ∧ LY r.2) := by
  unfold b_x_isLetter_24 at hf
  refine XS.go (s_iloadn rfl rfl rfl) ?_
  refine XS.go (s_bipush (v := 95) rfl rfl) ?_
  refine r_icmp_ne (tgt := 34) rfl rfl (fun qc1 => ?_) (fun qc1 => ?_)
  · rw [if_pos qc1] at hf
    refine XS.go (s_iconst (v := 0) rfl rfl) ?_
    cases hf
    exact XR.retz rfl rfl (by decide) (fun hret => ⟨_, hret, ⟨rfl, rfl⟩, L0⟩)
  · rw [if_neg qc1] at hf
    exact XR.forget (L2 := [none]) trivial (kb_x_isLetter_30 L0 hf)
def b_x_isLetter_12 (x0 : Int32) (h : XH) : Option (Int32 × XH) := (if x0 < 97 then (b_x_isLetter_24 x0 h) else (if x0 ≤ 122 then (b_x_isLetter_30 h) else (b_x_isLetter_24 x0 h)))
set_option maxRecDepth 20000 in
theorem kb_x_isLetter_12 {l : Launch} {G : XG} {d : Nat} {x0 : Int32} {h : XH} {r : Int32 × XH} (L0 : LY h) (hf : b_x_isLetter_12 x0 h = some r) : XR l G xEX6_isLetter d (12, [some (.int x0)], [], h) (fun C => ∃ v, xRet xEX6_isLetter C v ∧ (C.2.2.2 = r.2 ∧ v = some (.int r.1)) ∧ LY r.2) := by
  unfold b_x_isLetter_12 at hf
  refine XS.go (s_iloadn rfl rfl rfl) ?_
  refine XS.go (s_bipush (v := 97) rfl rfl) ?_
  refine r_icmp_lt (tgt := 24) rfl rfl (fun qc2 => ?_) (fun qc2 => ?_)
  · rw [if_pos qc2] at hf
    exact XR.forget (L2 := [some (.int x0)]) ⟨rfl, trivial⟩ (kb_x_isLetter_24 L0 hf)
  · rw [if_neg qc2] at hf
    refine XS.go (s_iloadn rfl rfl rfl) ?_
    refine XS.go (s_bipush (v := 122) rfl rfl) ?_
    refine r_icmp_le (tgt := 30) rfl rfl (fun qc3 => ?_) (fun qc3 => ?_)
    · rw [if_pos qc3] at hf
      exact XR.forget (L2 := [none]) trivial (kb_x_isLetter_30 L0 hf)
    · rw [if_neg qc3] at hf
      exact XR.forget (L2 := [some (.int x0)]) ⟨rfl, trivial⟩ (kb_x_isLetter_24 L0 hf)
def f_x_isLetter (a0 : Int32) (h : XH) : Option (Int32 × XH) := (if a0 < 65 then (b_x_isLetter_12 a0 h) else (if a0 ≤ 90 then (b_x_isLetter_30 h) else (b_x_isLetter_12 a0 h)))
set_option maxRecDepth 20000 in
theorem kf_x_isLetter {l : Launch} {G : XG} {d : Nat} {a0 : Int32} {h : XH} {r : Int32 × XH} (L0 : LY h) (hf : f_x_isLetter a0 h = some r) : XC l G xEX6_isLetter d [.int a0] h (fun v h2 => (h2 = r.2 ∧ v = some (.int r.1)) ∧ LY r.2) := by
  refine XC.stat xsX6_isLetter (Nat.le_of_ble_eq_true rfl) ?_
  unfold f_x_isLetter at hf
  refine XS.go (s_iloadn rfl rfl rfl) ?_
  refine XS.go (s_bipush (v := 65) rfl rfl) ?_
  refine r_icmp_lt (tgt := 12) rfl rfl (fun qc4 => ?_) (fun qc4 => ?_)
  · rw [if_pos qc4] at hf
    exact XR.forget (L2 := [some (.int a0)]) ⟨rfl, trivial⟩ (kb_x_isLetter_12 L0 hf)
  · rw [if_neg qc4] at hf
    refine XS.go (s_iloadn rfl rfl rfl) ?_
    refine XS.go (s_bipush (v := 90) rfl rfl) ?_
    refine r_icmp_le (tgt := 30) rfl rfl (fun qc5 => ?_) (fun qc5 => ?_)
    · rw [if_pos qc5] at hf
      exact XR.forget (L2 := [none]) trivial (kb_x_isLetter_30 L0 hf)
    · rw [if_neg qc5] at hf
      exact XR.forget (L2 := [some (.int a0)]) ⟨rfl, trivial⟩ (kb_x_isLetter_12 L0 hf)
def f_x_keep (a0 : Int32) (a1 : Int32) (a2 : Int64) (a3 : Int64) (h : XH) : Option (Int32 × XH) := (if (hi h 7 4) < 0 then (some (a0, h)) else (if (nI 4001) ≤ (hi h 7 4) then (some (a0, h)) else (some (a0, (hsi (hsj (hsj (hsi (hsi h 8 (Int32.toNatClampNeg (hi h 7 4)) a0) 9 (Int32.toNatClampNeg (hi h 7 4)) a1) 10 (Int32.toNatClampNeg (hi h 7 4)) a2) 11 (Int32.toNatClampNeg (hi h 7 4)) a3) 7 4 ((hi h 7 4) + 1))))))
set_option maxRecDepth 20000 in
theorem kf_x_keep {l : Launch} {G : XG} {d : Nat} {a0 : Int32} {a1 : Int32} {a2 : Int64} {a3 : Int64} {h : XH} {r : Int32 × XH} (L0 : LY h) (hf : f_x_keep a0 a1 a2 a3 h = some r) : XC l G xEX6_keep d [.ref 7, .int a0, .int a1, .long a2, .long a3] h (fun v h2 => (h2 = r.2 ∧ v = some (.int r.1)) ∧ LY r.2) := by
  refine XC.virt xvX6_keep (Nat.le_of_ble_eq_true rfl) ?_
  unfold f_x_keep at hf
  refine XS.go (s_aloadn rfl rfl rfl) ?_
  refine XS.go (s_getie rfl xf6_25 (LY.lt L0 (by decide)) (LY.k7 L0) (by decide) rfl rfl) ?_
  refine r_if_lt (tgt := 70) rfl rfl (fun qc1 => ?_) (fun qc1 => ?_)
  · rw [if_pos qc1] at hf
    refine XS.go (s_iloadn rfl rfl rfl) ?_
    cases hf
    exact XR.reti rfl rfl (fun hret => ⟨_, hret, ⟨rfl, rfl⟩, L0⟩)
  · rw [if_neg qc1] at hf
    refine XS.go (s_aloadn rfl rfl rfl) ?_
    refine XS.go (s_getie rfl xf6_25 (LY.lt L0 (by decide)) (LY.k7 L0) (by decide) rfl rfl) ?_
    refine XS.go (s_aloadn rfl rfl rfl) ?_
    refine XS.go (s_getr rfl xf6_9 (LY.lt L0 (by decide)) (LY.k7 L0) (by decide) rfl (LY.r7_0 L0)) ?_
    refine XS.go (s_alene rfl (LY.lt L0 (by decide)) (LY.k8 L0) (LY.n8 L0) (by decide)) ?_
    refine r_icmp_ge (tgt := 70) rfl rfl (fun qc2 => ?_) (fun qc2 => ?_)
    · rw [if_pos qc2] at hf
      refine XS.go (s_iloadn rfl rfl rfl) ?_
      cases hf
      exact XR.reti rfl rfl (fun hret => ⟨_, hret, ⟨rfl, rfl⟩, L0⟩)
    · rw [if_neg qc2] at hf
      refine XS.go (s_aloadn rfl rfl rfl) ?_
      refine XS.go (s_getr rfl xf6_9 (LY.lt L0 (by decide)) (LY.k7 L0) (by decide) rfl (LY.r7_0 L0)) ?_
      refine XS.go (s_aloadn rfl rfl rfl) ?_
      refine XS.go (s_getie rfl xf6_25 (LY.lt L0 (by decide)) (LY.k7 L0) (by decide) rfl rfl) ?_
      refine XS.go (s_iloadn rfl rfl rfl) ?_
      refine XS.go (s_iast rfl (LY.lt L0 (by decide)) (LY.k8 L0) (in_of (N := 4001) (LY.n8 L0) (by decide) qc1 qc2)) ?_
      refine XS.go (s_aloadn rfl rfl rfl) ?_
      refine XS.go (s_getr rfl xf6_15 (LY.lt (by simp only [LY_si, LY_sj]; exact L0) (by decide)) (LY.k7 (by simp only [LY_si, LY_sj]; exact L0)) (by decide) rfl (LY.r7_1 (by simp only [LY_si, LY_sj]; exact L0))) ?_
      refine XS.go (s_aloadn rfl rfl rfl) ?_
      refine XS.go (s_getie rfl xf6_25 (LY.lt (by simp only [LY_si, LY_sj]; exact L0) (by decide)) (LY.k7 (by simp only [LY_si, LY_sj]; exact L0)) (by decide) rfl (hi_hsi_na (by decide))) ?_
      refine XS.go (s_iloadn rfl rfl rfl) ?_
      refine XS.go (s_iast rfl (LY.lt (by simp only [LY_si, LY_sj]; exact L0) (by decide)) (LY.k9 (by simp only [LY_si, LY_sj]; exact L0)) (in_of (N := 4001) (LY.n9 (by simp only [LY_si, LY_sj]; exact L0)) (by decide) qc1 qc2)) ?_
      refine XS.go (s_aloadn rfl rfl rfl) ?_
      refine XS.go (s_getr rfl xf6_18 (LY.lt (by simp only [LY_si, LY_sj]; exact L0) (by decide)) (LY.k7 (by simp only [LY_si, LY_sj]; exact L0)) (by decide) rfl (LY.r7_2 (by simp only [LY_si, LY_sj]; exact L0))) ?_
      refine XS.go (s_aloadn rfl rfl rfl) ?_
      refine XS.go (s_getie rfl xf6_25 (LY.lt (by simp only [LY_si, LY_sj]; exact L0) (by decide)) (LY.k7 (by simp only [LY_si, LY_sj]; exact L0)) (by decide) rfl ((hi_hsi_na (by decide)).trans (hi_hsi_na (by decide)))) ?_
      refine XS.go (s_lloadn rfl rfl rfl) ?_
      refine XS.go (s_last rfl (LY.lt (by simp only [LY_si, LY_sj]; exact L0) (by decide)) (LY.k10 (by simp only [LY_si, LY_sj]; exact L0)) (in_of (N := 4001) (LY.n10 (by simp only [LY_si, LY_sj]; exact L0)) (by decide) qc1 qc2)) ?_
      refine XS.go (s_aloadn rfl rfl rfl) ?_
      refine XS.go (s_getr rfl xf6_22 (LY.lt (by simp only [LY_si, LY_sj]; exact L0) (by decide)) (LY.k7 (by simp only [LY_si, LY_sj]; exact L0)) (by decide) rfl (LY.r7_3 (by simp only [LY_si, LY_sj]; exact L0))) ?_
      refine XS.go (s_aloadn rfl rfl rfl) ?_
      refine XS.go (s_getie rfl xf6_25 (LY.lt (by simp only [LY_si, LY_sj]; exact L0) (by decide)) (LY.k7 (by simp only [LY_si, LY_sj]; exact L0)) (by decide) rfl ((congrFun hi_hsj _).trans ((hi_hsi_na (by decide)).trans (hi_hsi_na (by decide))))) ?_
      refine XS.go (s_lload rfl rfl) ?_
      refine XS.go (s_last rfl (LY.lt (by simp only [LY_si, LY_sj]; exact L0) (by decide)) (LY.k11 (by simp only [LY_si, LY_sj]; exact L0)) (in_of (N := 4001) (LY.n11 (by simp only [LY_si, LY_sj]; exact L0)) (by decide) qc1 qc2)) ?_
      refine XS.go (s_aloadn rfl rfl rfl) ?_
      refine XS.go (s_dup rfl rfl) ?_
      refine XS.go (s_getie rfl xf6_25 (LY.lt (by simp only [LY_si, LY_sj]; exact L0) (by decide)) (LY.k7 (by simp only [LY_si, LY_sj]; exact L0)) (by decide) rfl ((congrFun hi_hsj _).trans ((congrFun hi_hsj _).trans ((hi_hsi_na (by decide)).trans (hi_hsi_na (by decide)))))) ?_
      refine XS.go (s_iconst (v := 1) rfl rfl) ?_
      refine XS.go (s_iadd rfl) ?_
      refine XS.go (s_puti rfl xf6_25 (LY.lt (by simp only [LY_si, LY_sj]; exact L0) (by decide)) (LY.k7 (by simp only [LY_si, LY_sj]; exact L0)) (by decide) rfl (Or.inl rfl)) ?_
      refine XS.go (s_iloadn rfl rfl rfl) ?_
      cases hf
      exact XR.reti rfl rfl (fun hret => ⟨_, hret, ⟨rfl, rfl⟩, (by simp only [LY_si, LY_sj]; exact L0)⟩)
def b_x_isBlank_24 (h : XH) : Option (Int32 × XH) := (some (1, h))
set_option maxRecDepth 20000 in
theorem kb_x_isBlank_24 {l : Launch} {G : XG} {d : Nat} {h : XH} {r : Int32 × XH} (L0 : LY h) (hf : b_x_isBlank_24 h = some r) : XR l G xEX6_isBlank d (24, [none], [], h) (fun C => ∃ v, xRet xEX6_isBlank C v ∧ (C.2.2.2 = r.2 ∧ v = some (.int r.1)) ∧ LY r.2) := by
  unfold b_x_isBlank_24 at hf
  refine XS.go (s_iconst (v := 1) rfl rfl) ?_
  refine XS.go (s_goto (tgt := 29) rfl rfl) ?_
  cases hf
  exact XR.retz rfl rfl (by decide) (fun hret => ⟨_, hret, ⟨rfl, rfl⟩, L0⟩)
def f_x_isBlank (a0 : Int32) (h : XH) : Option (Int32 × XH) := (if a0 = 32 then (b_x_isBlank_24 h) else (if a0 = 9 then (b_x_isBlank_24 h) else (if a0 = 10 then (b_x_isBlank_24 h) else (if ¬ a0 = 13 then (some (0, h)) else (b_x_isBlank_24 h)))))
set_option maxRecDepth 20000 in
theorem kf_x_isBlank {l : Launch} {G : XG} {d : Nat} {a0 : Int32} {h : XH} {r : Int32 × XH} (L0 : LY h) (hf : f_x_isBlank a0 h = some r) : XC l G xEX6_isBlank d [.int a0] h (fun v h2 => (h2 = r.2 ∧ v = some (.int r.1)) ∧ LY r.2) := by
  refine XC.stat xsX6_isBlank (Nat.le_of_ble_eq_true rfl) ?_
  unfold f_x_isBlank at hf
  refine XS.go (s_iloadn rfl rfl rfl) ?_
  refine XS.go (s_bipush (v := 32) rfl rfl) ?_
  refine r_icmp_eq (tgt := 24) rfl rfl (fun qc1 => ?_) (fun qc1 => ?_)
  · rw [if_pos qc1] at hf
    exact XR.forget (L2 := [none]) trivial (kb_x_isBlank_24 L0 hf)
  · rw [if_neg qc1] at hf
    refine XS.go (s_iloadn rfl rfl rfl) ?_
    refine XS.go (s_bipush (v := 9) rfl rfl) ?_
    refine r_icmp_eq (tgt := 24) rfl rfl (fun qc2 => ?_) (fun qc2 => ?_)
    · rw [if_pos qc2] at hf
      exact XR.forget (L2 := [none]) trivial (kb_x_isBlank_24 L0 hf)
    · rw [if_neg qc2] at hf
      refine XS.go (s_iloadn rfl rfl rfl) ?_
      refine XS.go (s_bipush (v := 10) rfl rfl) ?_
      refine r_icmp_eq (tgt := 24) rfl rfl (fun qc3 => ?_) (fun qc3 => ?_)
      · rw [if_pos qc3] at hf
        exact XR.forget (L2 := [none]) trivial (kb_x_isBlank_24 L0 hf)
      · rw [if_neg qc3] at hf
        refine XS.go (s_iloadn rfl rfl rfl) ?_
        refine XS.go (s_bipush (v := 13) rfl rfl) ?_
        refine r_icmp_ne (tgt := 28) rfl rfl (fun qc4 => ?_) (fun qc4 => ?_)
        · rw [if_pos qc4] at hf
          refine XS.go (s_iconst (v := 0) rfl rfl) ?_
          cases hf
          exact XR.retz rfl rfl (by decide) (fun hret => ⟨_, hret, ⟨rfl, rfl⟩, L0⟩)
        · rw [if_neg qc4] at hf
          exact XR.forget (L2 := [none]) trivial (kb_x_isBlank_24 L0 hf)
def b_x_skipBlanks_75 (K2 : Nat → Int32 → XH → Option (Unit × XH)) (x1 : Nat) (x2 : Int32) (h : XH) : Option (Unit × XH) := (K2 x1 x2 (hsi h 7 5 ((hi h 7 5) + 1)))
set_option maxRecDepth 20000 in
theorem kb_x_skipBlanks_75 {l : Launch} {G : XG} {d : Nat} {K2 : Nat → Int32 → XH → Option (Unit × XH)} {x1 : Nat} {x2 : Int32} {h : XH} {r : Unit × XH} (hK2 : ∀ (x1 : Nat) (x2 : Int32) (h : XH), LY h → K2 x1 x2 h = some r → XR l G xEX6_skipBlanks (d + 2) (2, [some (.ref 7), some (.ref x1), some (.int x2), none], [], h) (fun C => ∃ v, xRet xEX6_skipBlanks C v ∧ (C.2.2.2 = r.2 ∧ v = none) ∧ LY r.2)) (L0 : LY h) (hf : b_x_skipBlanks_75 K2 x1 x2 h = some r) : XR l G xEX6_skipBlanks (d + 2) (75, [some (.ref 7), some (.ref x1), some (.int x2), none], [], h) (fun C => ∃ v, xRet xEX6_skipBlanks C v ∧ (C.2.2.2 = r.2 ∧ v = none) ∧ LY r.2) := by
  unfold b_x_skipBlanks_75 at hf
  refine XS.go (s_aloadn rfl rfl rfl) ?_
  refine XS.go (s_dup rfl rfl) ?_
  refine XS.go (s_getie rfl xf6_29 (LY.lt L0 (by decide)) (LY.k7 L0) (by decide) rfl rfl) ?_
  refine XS.go (s_iconst (v := 1) rfl rfl) ?_
  refine XS.go (s_iadd rfl) ?_
  refine XS.go (s_puti rfl xf6_29 (LY.lt L0 (by decide)) (LY.k7 L0) (by decide) rfl (Or.inl rfl)) ?_
  refine XS.go (s_goto (tgt := 2) rfl rfl) ?_
  exact XR.forget (L2 := [some (.ref 7), some (.ref x1), some (.int x2), none]) ⟨rfl, ⟨rfl, ⟨rfl, trivial⟩⟩⟩ (hK2 x1 x2 _ (by simp only [LY_si, LY_sj]; exact L0) hf)
def b_x_skipBlanks_67 (K2 : Nat → Int32 → XH → Option (Unit × XH)) (x1 : Nat) (x2 : Int32) (x3 : Int32) (h : XH) : Option (Unit × XH) := (match f_x_isBlank x3 h with | none => none | some r1 => (if ¬ r1.1 = 0 then (b_x_skipBlanks_75 K2 x1 x2 r1.2) else (some ((), r1.2))))
set_option maxRecDepth 20000 in
theorem kb_x_skipBlanks_67 {l : Launch} {G : XG} {d : Nat} {K2 : Nat → Int32 → XH → Option (Unit × XH)} {x1 : Nat} {x2 : Int32} {x3 : Int32} {h : XH} {r : Unit × XH} (hK2 : ∀ (x1 : Nat) (x2 : Int32) (h : XH), LY h → K2 x1 x2 h = some r → XR l G xEX6_skipBlanks (d + 2) (2, [some (.ref 7), some (.ref x1), some (.int x2), none], [], h) (fun C => ∃ v, xRet xEX6_skipBlanks C v ∧ (C.2.2.2 = r.2 ∧ v = none) ∧ LY r.2)) (L0 : LY h) (hf : b_x_skipBlanks_67 K2 x1 x2 x3 h = some r) : XR l G xEX6_skipBlanks (d + 2) (67, [some (.ref 7), some (.ref x1), some (.int x2), some (.int x3)], [], h) (fun C => ∃ v, xRet xEX6_skipBlanks C v ∧ (C.2.2.2 = r.2 ∧ v = none) ∧ LY r.2) := by
  unfold b_x_skipBlanks_67 at hf
  refine XS.go (s_iloadn rfl rfl rfl) ?_
  rcases e2 : f_x_isBlank x3 h with _ | r1
  · rw [e2] at hf; cases hf
  rw [e2] at hf; dsimp only at hf
  refine r_calls rfl xsX6_isBlank xm6_76 (kf_x_isBlank (d := d) L0 e2) rfl rfl (by omega) (by decide) (Nat.le_of_ble_eq_true rfl) ?_
  rintro _ _ ⟨⟨rfl, rfl⟩, L3⟩
  refine r_if_ne (tgt := 75) rfl rfl (fun qc4 => ?_) (fun qc4 => ?_)
  · rw [if_pos qc4] at hf
    exact XR.forget (L2 := [some (.ref 7), some (.ref x1), some (.int x2), none]) ⟨rfl, ⟨rfl, ⟨rfl, trivial⟩⟩⟩ (kb_x_skipBlanks_75 hK2 L3 hf)
  · rw [if_neg qc4] at hf
    cases hf
    exact XR.retv rfl rfl (fun hret => ⟨_, hret, ⟨rfl, rfl⟩, L3⟩)
def b_x_skipBlanks_37 (K2 : Nat → Int32 → XH → Option (Unit × XH)) (x1 : Nat) (y0 : Int32) (h : XH) : Option (Unit × XH) := (b_x_skipBlanks_75 K2 x1 y0 h)
set_option maxRecDepth 20000 in
theorem kb_x_skipBlanks_37 {l : Launch} {G : XG} {d : Nat} {K2 : Nat → Int32 → XH → Option (Unit × XH)} {x1 : Nat} {y0 : Int32} {h : XH} {r : Unit × XH} (hK2 : ∀ (x1 : Nat) (x2 : Int32) (h : XH), LY h → K2 x1 x2 h = some r → XR l G xEX6_skipBlanks (d + 2) (2, [some (.ref 7), some (.ref x1), some (.int x2), none], [], h) (fun C => ∃ v, xRet xEX6_skipBlanks C v ∧ (C.2.2.2 = r.2 ∧ v = none) ∧ LY r.2)) (L0 : LY h) (hf : b_x_skipBlanks_37 K2 x1 y0 h = some r) : XR l G xEX6_skipBlanks (d + 2) (37, [some (.ref 7), some (.ref x1), none, none], [(.int y0)], h) (fun C => ∃ v, xRet xEX6_skipBlanks C v ∧ (C.2.2.2 = r.2 ∧ v = none) ∧ LY r.2) := by
  unfold b_x_skipBlanks_37 at hf
  refine XS.go (s_istoren rfl rfl (Nat.le_of_ble_eq_true rfl)) ?_
  refine XS.go (s_goto (tgt := 75) rfl rfl) ?_
  exact XR.forget (L2 := [some (.ref 7), some (.ref x1), some (.int y0), none]) ⟨rfl, ⟨rfl, ⟨rfl, trivial⟩⟩⟩ (kb_x_skipBlanks_75 hK2 L0 hf)
def b_x_skipBlanks_2 : Nat → Nat → Int32 → XH → Option (Unit × XH)
  | 0, _, _, _ => none
  | n + 1, x1, x2, h => (if x1 < hz h ∧ hk h x1 = 1 then (if (hi h x1 1) ≤ (hi h 7 5) then (some ((), h)) else (match f_b_octet x1 (hi h 7 5) h with | none => none | some r7 => (if x2 = 0 then (if ¬ r7.1 = 47 then (b_x_skipBlanks_67 (b_x_skipBlanks_2 n) x1 x2 r7.1 r7.2) else (if x1 < hz r7.2 ∧ hk r7.2 x1 = 1 then (match f_b_octetOrNone x1 ((hi r7.2 7 5) + 1) r7.2 with | none => none | some r13 => (if ¬ r13.1 = 47 then (b_x_skipBlanks_67 (b_x_skipBlanks_2 n) x1 x2 r7.1 r13.2) else (b_x_skipBlanks_75 (b_x_skipBlanks_2 n) x1 1 r13.2))) else none)) else (if r7.1 = 10 then (b_x_skipBlanks_37 (b_x_skipBlanks_2 n) x1 0 r7.2) else (b_x_skipBlanks_37 (b_x_skipBlanks_2 n) x1 1 r7.2))))) else none)
set_option maxRecDepth 20000 in
theorem kb_x_skipBlanks_2 {l : Launch} {G : XG} {d : Nat} {n : Nat} {x1 : Nat} {x2 : Int32} {h : XH} {r : Unit × XH} (L0 : LY h) (hf : b_x_skipBlanks_2 n x1 x2 h = some r) : XR l G xEX6_skipBlanks (d + 2) (2, [some (.ref 7), some (.ref x1), some (.int x2), none], [], h) (fun C => ∃ v, xRet xEX6_skipBlanks C v ∧ (C.2.2.2 = r.2 ∧ v = none) ∧ LY r.2) := by
  induction n generalizing x1 x2 h with
  | zero => cases hf
  | succ n ih =>
    replace ih : ∀ (x1 : Nat) (x2 : Int32) (h : XH), LY h → b_x_skipBlanks_2 n x1 x2 h = some r → XR l G xEX6_skipBlanks (d + 2) (2, [some (.ref 7), some (.ref x1), some (.int x2), none], [], h) (fun C => ∃ v, xRet xEX6_skipBlanks C v ∧ (C.2.2.2 = r.2 ∧ v = none) ∧ LY r.2) := fun x1 x2 h L0 hf => ih (h := h) (x1 := x1) (x2 := x2) L0 hf
    rw [b_x_skipBlanks_2] at hf
    refine XS.go (s_aloadn rfl rfl rfl) ?_
    refine XS.go (s_getie rfl xf6_29 (LY.lt L0 (by decide)) (LY.k7 L0) (by decide) rfl rfl) ?_
    refine XS.go (s_aloadn rfl rfl rfl) ?_
    by_cases qk5 : x1 < hz h ∧ hk h x1 = 1
    rotate_left
    · rw [if_neg qk5] at hf; cases hf
    rw [if_pos qk5] at hf
    refine XS.go (s_getie rfl xf6_70 qk5.1 qk5.2 (by decide) rfl rfl) ?_
    refine r_icmp_ge (tgt := 88) rfl rfl (fun qc6 => ?_) (fun qc6 => ?_)
    · rw [if_pos qc6] at hf
      cases hf
      exact XR.retv rfl rfl (fun hret => ⟨_, hret, ⟨rfl, rfl⟩, L0⟩)
    · rw [if_neg qc6] at hf
      refine XS.go (s_aloadn rfl rfl rfl) ?_
      refine XS.go (s_aloadn rfl rfl rfl) ?_
      refine XS.go (s_getie rfl xf6_29 (LY.lt L0 (by decide)) (LY.k7 L0) (by decide) rfl rfl) ?_
      rcases e8 : f_b_octet x1 (hi h 7 5) h with _ | r7
      · rw [e8] at hf; cases hf
      rw [e8] at hf; dsimp only at hf
      refine r_callv rfl xvX1_octet xm6_73 (kf_b_octet (d := d) L0 e8) qk5.1 qk5.2 (by decide) rfl rfl (by omega) (by decide) (Nat.le_of_ble_eq_true rfl) ?_
      rintro _ _ ⟨⟨rfl, rfl⟩, L9⟩
      refine XS.go (s_istoren rfl rfl (Nat.le_of_ble_eq_true rfl)) ?_
      refine XS.go (s_iloadn rfl rfl rfl) ?_
      refine r_if_eq (tgt := 41) rfl rfl (fun qc10 => ?_) (fun qc10 => ?_)
      · rw [if_pos qc10] at hf
        refine XS.go (s_iloadn rfl rfl rfl) ?_
        refine XS.go (s_bipush (v := 47) rfl rfl) ?_
        refine r_icmp_ne (tgt := 67) rfl rfl (fun qc11 => ?_) (fun qc11 => ?_)
        · rw [if_pos qc11] at hf
          exact XR.forget (L2 := [some (.ref 7), some (.ref x1), some (.int x2), some (.int r7.1)]) ⟨rfl, ⟨rfl, ⟨rfl, ⟨rfl, trivial⟩⟩⟩⟩ (kb_x_skipBlanks_67 ih L9 hf)
        · rw [if_neg qc11] at hf
          refine XS.go (s_aloadn rfl rfl rfl) ?_
          refine XS.go (s_aloadn rfl rfl rfl) ?_
          refine XS.go (s_getie rfl xf6_29 (LY.lt L9 (by decide)) (LY.k7 L9) (by decide) rfl rfl) ?_
          refine XS.go (s_iconst (v := 1) rfl rfl) ?_
          refine XS.go (s_iadd rfl) ?_
          by_cases qk12 : x1 < hz r7.2 ∧ hk r7.2 x1 = 1
          rotate_left
          · rw [if_neg qk12] at hf; cases hf
          rw [if_pos qk12] at hf
          rcases e14 : f_b_octetOrNone x1 ((hi r7.2 7 5) + 1) r7.2 with _ | r13
          · rw [e14] at hf; cases hf
          rw [e14] at hf; dsimp only at hf
          refine r_callv rfl xvX1_octetOrNone xm6_40 (kf_b_octetOrNone (d := d) L9 e14) qk12.1 qk12.2 (by decide) rfl rfl (by omega) (by decide) (Nat.le_of_ble_eq_true rfl) ?_
          rintro _ _ ⟨⟨rfl, rfl⟩, L15⟩
          refine XS.go (s_bipush (v := 47) rfl rfl) ?_
          refine r_icmp_ne (tgt := 67) rfl rfl (fun qc16 => ?_) (fun qc16 => ?_)
          · rw [if_pos qc16] at hf
            exact XR.forget (L2 := [some (.ref 7), some (.ref x1), some (.int x2), some (.int r7.1)]) ⟨rfl, ⟨rfl, ⟨rfl, ⟨rfl, trivial⟩⟩⟩⟩ (kb_x_skipBlanks_67 ih L15 hf)
          · rw [if_neg qc16] at hf
            refine XS.go (s_iconst (v := 1) rfl rfl) ?_
            refine XS.go (s_istoren rfl rfl (Nat.le_of_ble_eq_true rfl)) ?_
            refine XS.go (s_goto (tgt := 75) rfl rfl) ?_
            exact XR.forget (L2 := [some (.ref 7), some (.ref x1), some (.int 1), none]) ⟨rfl, ⟨rfl, ⟨rfl, trivial⟩⟩⟩ (kb_x_skipBlanks_75 ih L15 hf)
      · rw [if_neg qc10] at hf
        refine XS.go (s_iloadn rfl rfl rfl) ?_
        refine XS.go (s_bipush (v := 10) rfl rfl) ?_
        refine r_icmp_eq (tgt := 36) rfl rfl (fun qc17 => ?_) (fun qc17 => ?_)
        · rw [if_pos qc17] at hf
          refine XS.go (s_iconst (v := 0) rfl rfl) ?_
          exact XR.forget (L2 := [some (.ref 7), some (.ref x1), none, none]) ⟨rfl, ⟨rfl, trivial⟩⟩ (kb_x_skipBlanks_37 ih L9 hf)
        · rw [if_neg qc17] at hf
          refine XS.go (s_iconst (v := 1) rfl rfl) ?_
          refine XS.go (s_goto (tgt := 37) rfl rfl) ?_
          exact XR.forget (L2 := [some (.ref 7), some (.ref x1), none, none]) ⟨rfl, ⟨rfl, trivial⟩⟩ (kb_x_skipBlanks_37 ih L9 hf)
def f_x_skipBlanks (a0 : Nat) (h : XH) : Option (Unit × XH) := (b_x_skipBlanks_2 100000 a0 0 h)
set_option maxRecDepth 20000 in
theorem kf_x_skipBlanks {l : Launch} {G : XG} {d : Nat} {a0 : Nat} {h : XH} {r : Unit × XH} (L0 : LY h) (hf : f_x_skipBlanks a0 h = some r) : XC l G xEX6_skipBlanks (d + 2) [.ref 7, .ref a0] h (fun v h2 => (h2 = r.2 ∧ v = none) ∧ LY r.2) := by
  refine XC.virt xvX6_skipBlanks (Nat.le_of_ble_eq_true rfl) ?_
  unfold f_x_skipBlanks at hf
  refine XS.go (s_iconst (v := 0) rfl rfl) ?_
  refine XS.go (s_istoren rfl rfl (Nat.le_of_ble_eq_true rfl)) ?_
  exact XR.forget (L2 := [some (.ref 7), some (.ref a0), some (.int 0), none]) ⟨rfl, ⟨rfl, ⟨rfl, trivial⟩⟩⟩ (kb_x_skipBlanks_2 L0 hf)
def b_x_takeWhole_156 (y1 : Int32) (y2 : Int32) (y3 : Int64) (h : XH) : Option (Int32 × XH) := (match f_x_keep y1 y2 y3 0 h with | none => none | some r1 => (some (r1.1, r1.2)))
set_option maxRecDepth 20000 in
theorem kb_x_takeWhole_156 {l : Launch} {G : XG} {d : Nat} {y1 : Int32} {y2 : Int32} {y3 : Int64} {h : XH} {r : Int32 × XH} (L0 : LY h) (hf : b_x_takeWhole_156 y1 y2 y3 h = some r) : XR l G xEX6_takeWhole (d + 1) (156, [none, none, none, none, none, none, none, none, none], [(.long y3), (.int y2), (.int y1), (.ref 7)], h) (fun C => ∃ v, xRet xEX6_takeWhole C v ∧ (C.2.2.2 = r.2 ∧ v = some (.int r.1)) ∧ LY r.2) := by
  unfold b_x_takeWhole_156 at hf
  refine XS.go (s_lconst (v := 0) rfl rfl) ?_
  rcases e2 : f_x_keep y1 y2 y3 0 h with _ | r1
  · rw [e2] at hf; cases hf
  rw [e2] at hf; dsimp only at hf
  refine r_callv rfl xvX6_keep xm6_46 (kf_x_keep (d := d) L0 e2) (LY.lt L0 (by decide)) (LY.k7 L0) (by decide) rfl rfl (by omega) (by decide) (Nat.le_of_ble_eq_true rfl) ?_
  rintro _ _ ⟨⟨rfl, rfl⟩, L3⟩
  cases hf
  exact XR.reti rfl rfl (fun hret => ⟨_, hret, ⟨rfl, rfl⟩, L3⟩)
def b_x_takeWhole_143 (x2 : Int32) (x3 : Int32) (x5 : Int64) (y1 : Int32) (h : XH) : Option (Int32 × XH) := (if x3 = 0 then (b_x_takeWhole_156 y1 x2 x5 h) else (b_x_takeWhole_156 y1 x2 (-x5) h))
set_option maxRecDepth 20000 in
theorem kb_x_takeWhole_143 {l : Launch} {G : XG} {d : Nat} {x2 : Int32} {x3 : Int32} {x5 : Int64} {y1 : Int32} {h : XH} {r : Int32 × XH} (L0 : LY h) (hf : b_x_takeWhole_143 x2 x3 x5 y1 h = some r) : XR l G xEX6_takeWhole (d + 1) (143, [none, none, some (.int x2), some (.int x3), none, some (.long x5), none, none, none], [(.int y1), (.ref 7)], h) (fun C => ∃ v, xRet xEX6_takeWhole C v ∧ (C.2.2.2 = r.2 ∧ v = some (.int r.1)) ∧ LY r.2) := by
  unfold b_x_takeWhole_143 at hf
  refine XS.go (s_iloadn rfl rfl rfl) ?_
  refine XS.go (s_iloadn rfl rfl rfl) ?_
  refine r_if_eq (tgt := 154) rfl rfl (fun qc4 => ?_) (fun qc4 => ?_)
  · rw [if_pos qc4] at hf
    refine XS.go (s_lload rfl rfl) ?_
    exact XR.forget (L2 := [none, none, none, none, none, none, none, none, none]) trivial (kb_x_takeWhole_156 L0 hf)
  · rw [if_neg qc4] at hf
    refine XS.go (s_lload rfl rfl) ?_
    refine XS.go (s_lneg rfl) ?_
    refine XS.go (s_goto (tgt := 156) rfl rfl) ?_
    exact XR.forget (L2 := [none, none, none, none, none, none, none, none, none]) trivial (kb_x_takeWhole_156 L0 hf)
def b_x_takeWhole_130 (x2 : Int32) (x3 : Int32) (x5 : Int64) (y0 : Int32) (h : XH) : Option (Int32 × XH) := (if y0 = 0 then (b_x_takeWhole_143 x2 x3 x5 1 h) else (b_x_takeWhole_143 x2 x3 x5 3 h))
set_option maxRecDepth 20000 in
theorem kb_x_takeWhole_130 {l : Launch} {G : XG} {d : Nat} {x2 : Int32} {x3 : Int32} {x5 : Int64} {y0 : Int32} {h : XH} {r : Int32 × XH} (L0 : LY h) (hf : b_x_takeWhole_130 x2 x3 x5 y0 h = some r) : XR l G xEX6_takeWhole (d + 1) (130, [some (.ref 7), none, some (.int x2), some (.int x3), none, some (.long x5), none, none, none], [(.int y0)], h) (fun C => ∃ v, xRet xEX6_takeWhole C v ∧ (C.2.2.2 = r.2 ∧ v = some (.int r.1)) ∧ LY r.2) := by
  unfold b_x_takeWhole_130 at hf
  refine XS.go (s_istore rfl (Nat.le_of_ble_eq_true rfl)) ?_
  refine XS.go (s_aloadn rfl rfl rfl) ?_
  refine XS.go (s_iload rfl rfl) ?_
  refine r_if_eq (tgt := 142) rfl rfl (fun qc5 => ?_) (fun qc5 => ?_)
  · rw [if_pos qc5] at hf
    refine XS.go (s_iconst (v := 1) rfl rfl) ?_
    exact XR.forget (L2 := [none, none, some (.int x2), some (.int x3), none, some (.long x5), none, none, none]) ⟨rfl, ⟨rfl, ⟨rfl, trivial⟩⟩⟩ (kb_x_takeWhole_143 L0 hf)
  · rw [if_neg qc5] at hf
    refine XS.go (s_iconst (v := 3) rfl rfl) ?_
    refine XS.go (s_goto (tgt := 143) rfl rfl) ?_
    exact XR.forget (L2 := [none, none, some (.int x2), some (.int x3), none, some (.long x5), none, none, none]) ⟨rfl, ⟨rfl, ⟨rfl, trivial⟩⟩⟩ (kb_x_takeWhole_143 L0 hf)
def b_x_takeWhole_129 (x2 : Int32) (x3 : Int32) (x5 : Int64) (h : XH) : Option (Int32 × XH) := (b_x_takeWhole_130 x2 x3 x5 0 h)
set_option maxRecDepth 20000 in
theorem kb_x_takeWhole_129 {l : Launch} {G : XG} {d : Nat} {x2 : Int32} {x3 : Int32} {x5 : Int64} {h : XH} {r : Int32 × XH} (L0 : LY h) (hf : b_x_takeWhole_129 x2 x3 x5 h = some r) : XR l G xEX6_takeWhole (d + 1) (129, [some (.ref 7), none, some (.int x2), some (.int x3), none, some (.long x5), none, none, none], [], h) (fun C => ∃ v, xRet xEX6_takeWhole C v ∧ (C.2.2.2 = r.2 ∧ v = some (.int r.1)) ∧ LY r.2) := by
  unfold b_x_takeWhole_129 at hf
  refine XS.go (s_iconst (v := 0) rfl rfl) ?_
  exact XR.forget (L2 := [some (.ref 7), none, some (.int x2), some (.int x3), none, some (.long x5), none, none, none]) ⟨rfl, ⟨rfl, ⟨rfl, ⟨rfl, trivial⟩⟩⟩⟩ (kb_x_takeWhole_130 L0 hf)
def b_x_takeWhole_103 (x2 : Int32) (x3 : Int32) (x4 : Int32) (x5 : Int64) (h : XH) : Option (Int32 × XH) := (if ((hi h 7 5) - x4) < 1 then (b_x_takeWhole_129 x2 x3 x5 h) else (if 18 < ((hi h 7 5) - x4) then (b_x_takeWhole_129 x2 x3 x5 h) else (b_x_takeWhole_130 x2 x3 x5 1 h)))
set_option maxRecDepth 20000 in
theorem kb_x_takeWhole_103 {l : Launch} {G : XG} {d : Nat} {x2 : Int32} {x3 : Int32} {x4 : Int32} {x5 : Int64} {h : XH} {r : Int32 × XH} (L0 : LY h) (hf : b_x_takeWhole_103 x2 x3 x4 x5 h = some r) : XR l G xEX6_takeWhole (d + 1) (103, [some (.ref 7), none, some (.int x2), some (.int x3), some (.int x4), some (.long x5), none, none, none], [], h) (fun C => ∃ v, xRet xEX6_takeWhole C v ∧ (C.2.2.2 = r.2 ∧ v = some (.int r.1)) ∧ LY r.2) := by
  unfold b_x_takeWhole_103 at hf
  refine XS.go (s_aloadn rfl rfl rfl) ?_
  refine XS.go (s_getie rfl xf6_29 (LY.lt L0 (by decide)) (LY.k7 L0) (by decide) rfl rfl) ?_
  refine XS.go (s_iload rfl rfl) ?_
  refine XS.go (s_isub rfl) ?_
  refine XS.go (s_istore rfl (Nat.le_of_ble_eq_true rfl)) ?_
  refine XS.go (s_iload rfl rfl) ?_
  refine XS.go (s_iconst (v := 1) rfl rfl) ?_
  refine r_icmp_lt (tgt := 129) rfl rfl (fun qc6 => ?_) (fun qc6 => ?_)
  · rw [if_pos qc6] at hf
    exact XR.forget (L2 := [some (.ref 7), none, some (.int x2), some (.int x3), none, some (.long x5), none, none, none]) ⟨rfl, ⟨rfl, ⟨rfl, ⟨rfl, trivial⟩⟩⟩⟩ (kb_x_takeWhole_129 L0 hf)
  · rw [if_neg qc6] at hf
    refine XS.go (s_iload rfl rfl) ?_
    refine XS.go (s_bipush (v := 18) rfl rfl) ?_
    refine r_icmp_gt (tgt := 129) rfl rfl (fun qc7 => ?_) (fun qc7 => ?_)
    · rw [if_pos qc7] at hf
      exact XR.forget (L2 := [some (.ref 7), none, some (.int x2), some (.int x3), none, some (.long x5), none, none, none]) ⟨rfl, ⟨rfl, ⟨rfl, ⟨rfl, trivial⟩⟩⟩⟩ (kb_x_takeWhole_129 L0 hf)
    · rw [if_neg qc7] at hf
      refine XS.go (s_iconst (v := 1) rfl rfl) ?_
      refine XS.go (s_goto (tgt := 130) rfl rfl) ?_
      exact XR.forget (L2 := [some (.ref 7), none, some (.int x2), some (.int x3), none, some (.long x5), none, none, none]) ⟨rfl, ⟨rfl, ⟨rfl, ⟨rfl, trivial⟩⟩⟩⟩ (kb_x_takeWhole_130 L0 hf)
def b_x_takeWhole_44 : Nat → Nat → Int32 → Int32 → Int32 → Int64 → XH → Option (Int32 × XH)
  | 0, _, _, _, _, _, _ => none
  | n + 1, x1, x2, x3, x4, x5, h => (if x1 < hz h ∧ hk h x1 = 1 then (if (hi h x1 1) ≤ (hi h 7 5) then (b_x_takeWhole_103 x2 x3 x4 x5 h) else (match f_b_octet x1 (hi h 7 5) h with | none => none | some r10 => (match f_x_isDigit r10.1 r10.2 with | none => none | some r13 => (if r13.1 = 0 then (b_x_takeWhole_103 x2 x3 x4 x5 r13.2) else (if x1 < hz r13.2 ∧ hk r13.2 x1 = 1 then (match f_b_octet x1 (hi r13.2 7 5) r13.2 with | none => none | some r18 => (b_x_takeWhole_44 n x1 x2 x3 x4 ((x5 * 10) + (Int32.toInt64 (r18.1 - 48))) (hsi r18.2 7 5 ((hi r18.2 7 5) + 1)))) else none))))) else none)
set_option maxRecDepth 20000 in
theorem kb_x_takeWhole_44 {l : Launch} {G : XG} {d : Nat} {n : Nat} {x1 : Nat} {x2 : Int32} {x3 : Int32} {x4 : Int32} {x5 : Int64} {h : XH} {r : Int32 × XH} (L0 : LY h) (hf : b_x_takeWhole_44 n x1 x2 x3 x4 x5 h = some r) : XR l G xEX6_takeWhole (d + 1) (44, [some (.ref 7), some (.ref x1), some (.int x2), some (.int x3), some (.int x4), some (.long x5), none, none, none], [], h) (fun C => ∃ v, xRet xEX6_takeWhole C v ∧ (C.2.2.2 = r.2 ∧ v = some (.int r.1)) ∧ LY r.2) := by
  induction n generalizing x1 x2 x3 x4 x5 h with
  | zero => cases hf
  | succ n ih =>
    replace ih : ∀ (x1 : Nat) (x2 : Int32) (x3 : Int32) (x4 : Int32) (x5 : Int64) (h : XH), LY h → b_x_takeWhole_44 n x1 x2 x3 x4 x5 h = some r → XR l G xEX6_takeWhole (d + 1) (44, [some (.ref 7), some (.ref x1), some (.int x2), some (.int x3), some (.int x4), some (.long x5), none, none, none], [], h) (fun C => ∃ v, xRet xEX6_takeWhole C v ∧ (C.2.2.2 = r.2 ∧ v = some (.int r.1)) ∧ LY r.2) := fun x1 x2 x3 x4 x5 h L0 hf => ih (h := h) (x1 := x1) (x2 := x2) (x3 := x3) (x4 := x4) (x5 := x5) L0 hf
    rw [b_x_takeWhole_44] at hf
    refine XS.go (s_aloadn rfl rfl rfl) ?_
    refine XS.go (s_getie rfl xf6_29 (LY.lt L0 (by decide)) (LY.k7 L0) (by decide) rfl rfl) ?_
    refine XS.go (s_aloadn rfl rfl rfl) ?_
    by_cases qk8 : x1 < hz h ∧ hk h x1 = 1
    rotate_left
    · rw [if_neg qk8] at hf; cases hf
    rw [if_pos qk8] at hf
    refine XS.go (s_getie rfl xf6_70 qk8.1 qk8.2 (by decide) rfl rfl) ?_
    refine r_icmp_ge (tgt := 103) rfl rfl (fun qc9 => ?_) (fun qc9 => ?_)
    · rw [if_pos qc9] at hf
      exact XR.forget (L2 := [some (.ref 7), none, some (.int x2), some (.int x3), some (.int x4), some (.long x5), none, none, none]) ⟨rfl, ⟨rfl, ⟨rfl, ⟨rfl, ⟨rfl, trivial⟩⟩⟩⟩⟩ (kb_x_takeWhole_103 L0 hf)
    · rw [if_neg qc9] at hf
      refine XS.go (s_aloadn rfl rfl rfl) ?_
      refine XS.go (s_aloadn rfl rfl rfl) ?_
      refine XS.go (s_getie rfl xf6_29 (LY.lt L0 (by decide)) (LY.k7 L0) (by decide) rfl rfl) ?_
      rcases e11 : f_b_octet x1 (hi h 7 5) h with _ | r10
      · rw [e11] at hf; cases hf
      rw [e11] at hf; dsimp only at hf
      refine r_callv rfl xvX1_octet xm6_73 (kf_b_octet (d := d) L0 e11) qk8.1 qk8.2 (by decide) rfl rfl (by omega) (by decide) (Nat.le_of_ble_eq_true rfl) ?_
      rintro _ _ ⟨⟨rfl, rfl⟩, L12⟩
      rcases e14 : f_x_isDigit r10.1 r10.2 with _ | r13
      · rw [e14] at hf; cases hf
      rw [e14] at hf; dsimp only at hf
      refine r_calls rfl xsX6_isDigit xm6_57 (kf_x_isDigit (d := d) L12 e14) rfl rfl (by omega) (by decide) (Nat.le_of_ble_eq_true rfl) ?_
      rintro _ _ ⟨⟨rfl, rfl⟩, L15⟩
      refine r_if_eq (tgt := 103) rfl rfl (fun qc16 => ?_) (fun qc16 => ?_)
      · rw [if_pos qc16] at hf
        exact XR.forget (L2 := [some (.ref 7), none, some (.int x2), some (.int x3), some (.int x4), some (.long x5), none, none, none]) ⟨rfl, ⟨rfl, ⟨rfl, ⟨rfl, ⟨rfl, trivial⟩⟩⟩⟩⟩ (kb_x_takeWhole_103 L15 hf)
      · rw [if_neg qc16] at hf
        refine XS.go (s_lload rfl rfl) ?_
        refine XS.go (s_ldc2 rfl (lg_4 175 rfl rfl)) ?_
        refine XS.go (s_lmul rfl) ?_
        refine XS.go (s_aloadn rfl rfl rfl) ?_
        refine XS.go (s_aloadn rfl rfl rfl) ?_
        refine XS.go (s_getie rfl xf6_29 (LY.lt L15 (by decide)) (LY.k7 L15) (by decide) rfl rfl) ?_
        by_cases qk17 : x1 < hz r13.2 ∧ hk r13.2 x1 = 1
        rotate_left
        · rw [if_neg qk17] at hf; cases hf
        rw [if_pos qk17] at hf
        rcases e19 : f_b_octet x1 (hi r13.2 7 5) r13.2 with _ | r18
        · rw [e19] at hf; cases hf
        rw [e19] at hf; dsimp only at hf
        refine r_callv rfl xvX1_octet xm6_73 (kf_b_octet (d := d) L15 e19) qk17.1 qk17.2 (by decide) rfl rfl (by omega) (by decide) (Nat.le_of_ble_eq_true rfl) ?_
        rintro _ _ ⟨⟨rfl, rfl⟩, L20⟩
        refine XS.go (s_bipush (v := 48) rfl rfl) ?_
        refine XS.go (s_isub rfl) ?_
        refine XS.go (s_i2l rfl) ?_
        refine XS.go (s_ladd rfl) ?_
        refine XS.go (s_lstore rfl (Nat.le_of_ble_eq_true rfl)) ?_
        refine XS.go (s_aloadn rfl rfl rfl) ?_
        refine XS.go (s_dup rfl rfl) ?_
        refine XS.go (s_getie rfl xf6_29 (LY.lt L20 (by decide)) (LY.k7 L20) (by decide) rfl rfl) ?_
        refine XS.go (s_iconst (v := 1) rfl rfl) ?_
        refine XS.go (s_iadd rfl) ?_
        refine XS.go (s_puti rfl xf6_29 (LY.lt L20 (by decide)) (LY.k7 L20) (by decide) rfl (Or.inl rfl)) ?_
        refine XS.go (s_goto (tgt := 44) rfl rfl) ?_
        exact XR.forget (L2 := [some (.ref 7), some (.ref x1), some (.int x2), some (.int x3), some (.int x4), some (.long ((x5 * 10) + (Int32.toInt64 (r18.1 - 48)))), none, none, none]) ⟨rfl, ⟨rfl, ⟨rfl, ⟨rfl, ⟨rfl, ⟨rfl, trivial⟩⟩⟩⟩⟩⟩ (ih x1 x2 x3 x4 ((x5 * 10) + (Int32.toInt64 (r18.1 - 48))) _ (by simp only [LY_si, LY_sj]; exact L20) hf)
def b_x_takeWhole_35 (x1 : Nat) (x2 : Int32) (x3 : Int32) (h : XH) : Option (Int32 × XH) := (b_x_takeWhole_44 100000 x1 x2 x3 (hi h 7 5) 0 h)
set_option maxRecDepth 20000 in
theorem kb_x_takeWhole_35 {l : Launch} {G : XG} {d : Nat} {x1 : Nat} {x2 : Int32} {x3 : Int32} {h : XH} {r : Int32 × XH} (L0 : LY h) (hf : b_x_takeWhole_35 x1 x2 x3 h = some r) : XR l G xEX6_takeWhole (d + 1) (35, [some (.ref 7), some (.ref x1), some (.int x2), some (.int x3), none, none, none, none, none], [], h) (fun C => ∃ v, xRet xEX6_takeWhole C v ∧ (C.2.2.2 = r.2 ∧ v = some (.int r.1)) ∧ LY r.2) := by
  unfold b_x_takeWhole_35 at hf
  refine XS.go (s_aloadn rfl rfl rfl) ?_
  refine XS.go (s_getie rfl xf6_29 (LY.lt L0 (by decide)) (LY.k7 L0) (by decide) rfl rfl) ?_
  refine XS.go (s_istore rfl (Nat.le_of_ble_eq_true rfl)) ?_
  refine XS.go (s_lconst (v := 0) rfl rfl) ?_
  refine XS.go (s_lstore rfl (Nat.le_of_ble_eq_true rfl)) ?_
  exact XR.forget (L2 := [some (.ref 7), some (.ref x1), some (.int x2), some (.int x3), some (.int (hi h 7 5)), some (.long 0), none, none, none]) ⟨rfl, ⟨rfl, ⟨rfl, ⟨rfl, ⟨rfl, ⟨rfl, trivial⟩⟩⟩⟩⟩⟩ (kb_x_takeWhole_44 L0 hf)
def b_x_takeWhole_20 (x1 : Nat) (x2 : Int32) (y0 : Int32) (h : XH) : Option (Int32 × XH) := (if y0 = 0 then (b_x_takeWhole_35 x1 x2 y0 h) else (b_x_takeWhole_35 x1 x2 y0 (hsi h 7 5 ((hi h 7 5) + 1))))
set_option maxRecDepth 20000 in
theorem kb_x_takeWhole_20 {l : Launch} {G : XG} {d : Nat} {x1 : Nat} {x2 : Int32} {y0 : Int32} {h : XH} {r : Int32 × XH} (L0 : LY h) (hf : b_x_takeWhole_20 x1 x2 y0 h = some r) : XR l G xEX6_takeWhole (d + 1) (20, [some (.ref 7), some (.ref x1), some (.int x2), none, none, none, none, none, none], [(.int y0)], h) (fun C => ∃ v, xRet xEX6_takeWhole C v ∧ (C.2.2.2 = r.2 ∧ v = some (.int r.1)) ∧ LY r.2) := by
  unfold b_x_takeWhole_20 at hf
  refine XS.go (s_istoren rfl rfl (Nat.le_of_ble_eq_true rfl)) ?_
  refine XS.go (s_iloadn rfl rfl rfl) ?_
  refine r_if_eq (tgt := 35) rfl rfl (fun qc21 => ?_) (fun qc21 => ?_)
  · rw [if_pos qc21] at hf
    exact XR.forget (L2 := [some (.ref 7), some (.ref x1), some (.int x2), some (.int y0), none, none, none, none, none]) ⟨rfl, ⟨rfl, ⟨rfl, ⟨rfl, trivial⟩⟩⟩⟩ (kb_x_takeWhole_35 L0 hf)
  · rw [if_neg qc21] at hf
    refine XS.go (s_aloadn rfl rfl rfl) ?_
    refine XS.go (s_dup rfl rfl) ?_
    refine XS.go (s_getie rfl xf6_29 (LY.lt L0 (by decide)) (LY.k7 L0) (by decide) rfl rfl) ?_
    refine XS.go (s_iconst (v := 1) rfl rfl) ?_
    refine XS.go (s_iadd rfl) ?_
    refine XS.go (s_puti rfl xf6_29 (LY.lt L0 (by decide)) (LY.k7 L0) (by decide) rfl (Or.inl rfl)) ?_
    exact XR.forget (L2 := [some (.ref 7), some (.ref x1), some (.int x2), some (.int y0), none, none, none, none, none]) ⟨rfl, ⟨rfl, ⟨rfl, ⟨rfl, trivial⟩⟩⟩⟩ (kb_x_takeWhole_35 (by simp only [LY_si, LY_sj]; exact L0) hf)
def f_x_takeWhole (a0 : Nat) (h : XH) : Option (Int32 × XH) := (if a0 < hz h ∧ hk h a0 = 1 then (match f_b_octet a0 (hi h 7 5) h with | none => none | some r23 => (if ¬ r23.1 = 45 then (b_x_takeWhole_20 a0 (hi h 7 5) 0 r23.2) else (b_x_takeWhole_20 a0 (hi h 7 5) 1 r23.2))) else none)
set_option maxRecDepth 20000 in
theorem kf_x_takeWhole {l : Launch} {G : XG} {d : Nat} {a0 : Nat} {h : XH} {r : Int32 × XH} (L0 : LY h) (hf : f_x_takeWhole a0 h = some r) : XC l G xEX6_takeWhole (d + 1) [.ref 7, .ref a0] h (fun v h2 => (h2 = r.2 ∧ v = some (.int r.1)) ∧ LY r.2) := by
  refine XC.virt xvX6_takeWhole (Nat.le_of_ble_eq_true rfl) ?_
  unfold f_x_takeWhole at hf
  refine XS.go (s_aloadn rfl rfl rfl) ?_
  refine XS.go (s_getie rfl xf6_29 (LY.lt L0 (by decide)) (LY.k7 L0) (by decide) rfl rfl) ?_
  refine XS.go (s_istoren rfl rfl (Nat.le_of_ble_eq_true rfl)) ?_
  refine XS.go (s_aloadn rfl rfl rfl) ?_
  refine XS.go (s_iloadn rfl rfl rfl) ?_
  by_cases qk22 : a0 < hz h ∧ hk h a0 = 1
  rotate_left
  · rw [if_neg qk22] at hf; cases hf
  rw [if_pos qk22] at hf
  rcases e24 : f_b_octet a0 (hi h 7 5) h with _ | r23
  · rw [e24] at hf; cases hf
  rw [e24] at hf; dsimp only at hf
  refine r_callv rfl xvX1_octet xm6_73 (kf_b_octet (d := d) L0 e24) qk22.1 qk22.2 (by decide) rfl rfl (by omega) (by decide) (Nat.le_of_ble_eq_true rfl) ?_
  rintro _ _ ⟨⟨rfl, rfl⟩, L25⟩
  refine XS.go (s_bipush (v := 45) rfl rfl) ?_
  refine r_icmp_ne (tgt := 19) rfl rfl (fun qc26 => ?_) (fun qc26 => ?_)
  · rw [if_pos qc26] at hf
    refine XS.go (s_iconst (v := 0) rfl rfl) ?_
    exact XR.forget (L2 := [some (.ref 7), some (.ref a0), some (.int (hi h 7 5)), none, none, none, none, none, none]) ⟨rfl, ⟨rfl, ⟨rfl, trivial⟩⟩⟩ (kb_x_takeWhole_20 L25 hf)
  · rw [if_neg qc26] at hf
    refine XS.go (s_iconst (v := 1) rfl rfl) ?_
    refine XS.go (s_goto (tgt := 20) rfl rfl) ?_
    exact XR.forget (L2 := [some (.ref 7), some (.ref a0), some (.int (hi h 7 5)), none, none, none, none, none, none]) ⟨rfl, ⟨rfl, ⟨rfl, trivial⟩⟩⟩ (kb_x_takeWhole_20 L25 hf)
