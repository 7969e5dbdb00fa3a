/-! Methods as functions of the heap -/
def b_d_numberSlots_60 (K7 : Nat → Int32 → XH → Option (Unit × XH)) (x0 : Nat) (x1 : Int32) (y0 : Nat) (y1 : Int32) (y2 : Int32) (h : XH) : Option (Unit × XH) := (if y0 < hz h ∧ hk h y0 = 2 then (K7 x0 (x1 + 1) (hsi h y0 8 (y1 + y2))) else none)
set_option maxRecDepth 20000 in
theorem kb_d_numberSlots_60 {l : Launch} {G : XG} {d : Nat} {K7 : Nat → Int32 → XH → Option (Unit × XH)} {x0 : Nat} {x1 : Int32} {y0 : Nat} {y1 : Int32} {y2 : Int32} {h : XH} {r : Unit × XH} (hK7 : ∀ (x0 : Nat) (x1 : Int32) (h : XH), LY h → K7 x0 x1 h = some r → XR l G xEX2_numberSlots d (7, [some (.ref x0), some (.int x1)], [], h) (fun C => ∃ v, xRet xEX2_numberSlots C v ∧ (C.2.2.2 = r.2 ∧ v = none) ∧ LY r.2)) (L0 : LY h) (hf : b_d_numberSlots_60 K7 x0 x1 y0 y1 y2 h = some r) : XR l G xEX2_numberSlots d (60, [some (.ref x0), some (.int x1)], [(.int y2), (.int y1), (.ref y0)], h) (fun C => ∃ v, xRet xEX2_numberSlots C v ∧ (C.2.2.2 = r.2 ∧ v = none) ∧ LY r.2) := by
  unfold b_d_numberSlots_60 at hf
  refine XS.go (s_iadd rfl) ?_
  by_cases qk1 : y0 < hz h ∧ hk h y0 = 2
  rotate_left
  · rw [if_neg qk1] at hf; cases hf
  rw [if_pos qk1] at hf
  refine XS.go (s_puti rfl xf2_28 qk1.1 qk1.2 (by decide) rfl (Or.inl rfl)) ?_
  refine XS.go (s_inc rfl rfl (Nat.le_of_ble_eq_true rfl)) ?_
  refine XS.go (s_goto (tgt := 7) rfl rfl) ?_
  exact XR.forget (L2 := [some (.ref x0), some (.int (x1 + 1))]) ⟨rfl, ⟨rfl, trivial⟩⟩ (hK7 x0 (x1 + 1) _ (by simp only [LY_si, LY_sj]; exact L0) hf)
def s_d_numberSlots_7 (K7 : Nat → Int32 → XH → Option (Unit × XH)) (x0 : Nat) (x1 : Int32) (h : XH) : Option (Unit × XH) := (if x0 < hz h ∧ hk h x0 = 2 then (if (hi h x0 3) ≤ x1 then (some ((), h)) else (match hr h x0 2 with | none => none | some b4 => (if b4 < hz h ∧ hk h b4 = 104 then (if (nI (hn h b4)) ≤ x1 then (some ((), h)) else (if 0 ≤ x1 ∧ x1 < nI (hn h b4) ∧ (hn h b4) < 2 ^ 31 then (match hr h b4 (Int32.toNatClampNeg x1) with | none => none | some b9 => (if b9 < hz h ∧ hk h b9 = 3 then (if ¬ (hi h b9 3) = 4 then (b_d_numberSlots_60 K7 x0 x1 x0 (hi h x0 8) 1 (hsi h b9 6 (hi h x0 8))) else (b_d_numberSlots_60 K7 x0 x1 x0 (hi h x0 8) 2 (hsi h b9 6 (hi h x0 8)))) else none)) else none)) else none))) else none)
set_option maxRecDepth 20000 in
theorem ks_d_numberSlots_7 {l : Launch} {G : XG} {d : Nat} {K7 : Nat → Int32 → XH → Option (Unit × XH)} {x0 : Nat} {x1 : Int32} {h : XH} {r : Unit × XH} (hK7 : ∀ (x0 : Nat) (x1 : Int32) (h : XH), LY h → K7 x0 x1 h = some r → XR l G xEX2_numberSlots d (7, [some (.ref x0), some (.int x1)], [], h) (fun C => ∃ v, xRet xEX2_numberSlots C v ∧ (C.2.2.2 = r.2 ∧ v = none) ∧ LY r.2)) (L0 : LY h) (hf : s_d_numberSlots_7 K7 x0 x1 h = some r) : XR l G xEX2_numberSlots d (7, [some (.ref x0), some (.int x1)], [], h) (fun C => ∃ v, xRet xEX2_numberSlots C v ∧ (C.2.2.2 = r.2 ∧ v = none) ∧ LY r.2) := by
  unfold s_d_numberSlots_7 at hf
  refine XS.go (s_iloadn rfl rfl rfl) ?_
  refine XS.go (s_aloadn rfl rfl rfl) ?_
  by_cases qk2 : x0 < hz h ∧ hk h x0 = 2
  rotate_left
  · rw [if_neg qk2] at hf; cases hf
  rw [if_pos qk2] at hf
  refine XS.go (s_getie rfl xf2_9 qk2.1 qk2.2 (by decide) rfl rfl) ?_
  refine r_icmp_ge (tgt := 70) rfl rfl (fun qc3 => ?_) (fun qc3 => ?_)
  · rw [if_pos qc3] at hf
    cases hf
    exact XR.retv rfl rfl (fun hret => ⟨_, hret, ⟨rfl, rfl⟩, L0⟩)
  · rw [if_neg qc3] at hf
    refine XS.go (s_iloadn rfl rfl rfl) ?_
    refine XS.go (s_aloadn rfl rfl rfl) ?_
    rcases qr5 : hr h x0 2 with _ | b4
    · rw [qr5] at hf; cases hf
    rw [qr5] at hf; dsimp only at hf
    refine XS.go (s_getr rfl xf2_42 qk2.1 qk2.2 (by decide) rfl qr5) ?_
    by_cases qk6 : b4 < hz h ∧ hk h b4 = 104
    rotate_left
    · rw [if_neg qk6] at hf; cases hf
    rw [if_pos qk6] at hf
    refine XS.go (s_alene rfl qk6.1 qk6.2 rfl (by decide)) ?_
    refine r_icmp_ge (tgt := 70) rfl rfl (fun qc7 => ?_) (fun qc7 => ?_)
    · rw [if_pos qc7] at hf
      cases hf
      exact XR.retv rfl rfl (fun hret => ⟨_, hret, ⟨rfl, rfl⟩, L0⟩)
    · rw [if_neg qc7] at hf
      refine XS.go (s_aloadn rfl rfl rfl) ?_
      refine XS.go (s_getr rfl xf2_42 qk2.1 qk2.2 (by decide) rfl qr5) ?_
      refine XS.go (s_iloadn rfl rfl rfl) ?_
      by_cases qk8 : 0 ≤ x1 ∧ x1 < nI (hn h b4) ∧ (hn h b4) < 2 ^ 31
      rotate_left
      · rw [if_neg qk8] at hf; cases hf
      rw [if_pos qk8] at hf
      rcases qr10 : hr h b4 (Int32.toNatClampNeg x1) with _ | b9
      · rw [qr10] at hf; cases hf
      rw [qr10] at hf; dsimp only at hf
      refine XS.go (s_aald104e rfl qk6.1 qk6.2 (inLit (N := hn h b4) rfl qk8.1 qk8.2.1 qk8.2.2) qr10) ?_
      refine XS.go (s_aloadn rfl rfl rfl) ?_
      refine XS.go (s_getie rfl xf2_28 qk2.1 qk2.2 (by decide) rfl rfl) ?_
      by_cases qk11 : b9 < hz h ∧ hk h b9 = 3
      rotate_left
      · rw [if_neg qk11] at hf; cases hf
      rw [if_pos qk11] at hf
      refine XS.go (s_puti rfl xf2_71 qk11.1 qk11.2 (by decide) rfl (Or.inl rfl)) ?_
      refine XS.go (s_aloadn rfl rfl rfl) ?_
      refine XS.go (s_dup rfl rfl) ?_
      refine XS.go (s_getie rfl xf2_28 (by simp only [hz_hsi, hk_hsi, hz_hsj, hk_hsj]; exact qk2.1) (by simp only [hz_hsi, hk_hsi, hz_hsj, hk_hsj]; exact qk2.2) (by decide) rfl (hi_hsi_nk (by decide))) ?_
      refine XS.go (s_aloadn rfl rfl rfl) ?_
      refine XS.go (s_getr rfl xf2_42 (by simp only [hz_hsi, hk_hsi, hz_hsj, hk_hsj]; exact qk2.1) (by simp only [hz_hsi, hk_hsi, hz_hsj, hk_hsj]; exact qk2.2) (by decide) rfl (by simp only [hr_hsi, hr_hsj]; exact qr5)) ?_
      refine XS.go (s_iloadn rfl rfl rfl) ?_
      refine XS.go (s_aald104e rfl (by simp only [hz_hsi, hk_hsi, hz_hsj, hk_hsj]; exact qk6.1) (by simp only [hz_hsi, hk_hsi, hz_hsj, hk_hsj]; exact qk6.2) (inLit (N := hn h b4) (by simp only [hn_hsi, hn_hsj]) qk8.1 qk8.2.1 qk8.2.2) (by simp only [hr_hsi, hr_hsj]; exact qr10)) ?_
      refine XS.go (s_getie rfl xf2_74 (by simp only [hz_hsi, hk_hsi, hz_hsj, hk_hsj]; exact qk11.1) (by simp only [hz_hsi, hk_hsi, hz_hsj, hk_hsj]; exact qk11.2) (by decide) rfl (hi_hsi_nk (by decide))) ?_
      refine XS.go (s_iconst (v := 4) rfl rfl) ?_
      refine r_icmp_ne (tgt := 59) rfl rfl (fun qc12 => ?_) (fun qc12 => ?_)
      · rw [if_pos qc12] at hf
        refine XS.go (s_iconst (v := 1) rfl rfl) ?_
        exact XR.forget (L2 := [some (.ref x0), some (.int x1)]) ⟨rfl, ⟨rfl, trivial⟩⟩ (kb_d_numberSlots_60 hK7 (by simp only [LY_si, LY_sj]; exact L0) hf)
      · rw [if_neg qc12] at hf
        refine XS.go (s_iconst (v := 2) rfl rfl) ?_
        refine XS.go (s_goto (tgt := 60) rfl rfl) ?_
        exact XR.forget (L2 := [some (.ref x0), some (.int x1)]) ⟨rfl, ⟨rfl, trivial⟩⟩ (kb_d_numberSlots_60 hK7 (by simp only [LY_si, LY_sj]; exact L0) hf)
def b_d_numberSlots_7 : Nat → Nat → Int32 → XH → Option (Unit × XH)
  | 0, _, _, _ => none
  | n + 1, x0, x1, h => s_d_numberSlots_7 (b_d_numberSlots_7 n) x0 x1 h
theorem kb_d_numberSlots_7 {l : Launch} {G : XG} {d : Nat} {n : Nat} {x0 : Nat} {x1 : Int32} {h : XH} {r : Unit × XH} (L0 : LY h) (hf : b_d_numberSlots_7 n x0 x1 h = some r) : XR l G xEX2_numberSlots d (7, [some (.ref x0), some (.int x1)], [], h) (fun C => ∃ v, xRet xEX2_numberSlots C v ∧ (C.2.2.2 = r.2 ∧ v = none) ∧ LY r.2) := by
  induction n generalizing x0 x1 h with
  | zero => cases hf
  | succ n ih => exact ks_d_numberSlots_7 (fun x0 x1 h L0 hf => ih (h := h) (x0 := x0) (x1 := x1) L0 hf) L0 hf
def f_d_numberSlots (t : Nat) (h : XH) : Option (Unit × XH) := (if t < hz h ∧ hk h t = 2 then (b_d_numberSlots_7 100000 t 0 (hsi h t 8 0)) else none)
set_option maxRecDepth 20000 in
theorem kf_d_numberSlots {l : Launch} {G : XG} {d : Nat} {t : Nat} {h : XH} {r : Unit × XH} (L0 : LY h) (hf : f_d_numberSlots t h = some r) : XC l G xEX2_numberSlots d [.ref t] h (fun v h2 => (h2 = r.2 ∧ v = none) ∧ LY r.2) := by
  refine XC.virt xvX2_numberSlots (Nat.le_of_ble_eq_true rfl) ?_
  unfold f_d_numberSlots at hf
  refine XS.go (s_aloadn rfl rfl rfl) ?_
  refine XS.go (s_iconst (v := 0) rfl rfl) ?_
  by_cases qk13 : t < hz h ∧ hk h t = 2
  rotate_left
  · rw [if_neg qk13] at hf; cases hf
  rw [if_pos qk13] at hf
  refine XS.go (s_puti rfl xf2_28 qk13.1 qk13.2 (by decide) rfl (Or.inl rfl)) ?_
  refine XS.go (s_iconst (v := 0) rfl rfl) ?_
  refine XS.go (s_istoren rfl rfl (Nat.le_of_ble_eq_true rfl)) ?_
  exact XR.forget (L2 := [some (.ref t), some (.int 0)]) ⟨rfl, ⟨rfl, trivial⟩⟩ (kb_d_numberSlots_7 (by simp only [LY_si, LY_sj]; exact L0) hf)
def b_g_add_19 (h : XH) : Option (Option Nat × XH) := (some (none, h))
set_option maxRecDepth 20000 in
theorem kb_g_add_19 {l : Launch} {G : XG} {d : Nat} {h : XH} {r : Option Nat × XH} (L0 : LY h) (hf : b_g_add_19 h = some r) : XR l G xEX4_add (d + 1) (19, [none, none, none, none, none, none], [], h) (fun C => ∃ v, xRet xEX4_add C v ∧ (C.2.2.2 = r.2 ∧ v = some (va_rf r.1)) ∧ LY r.2) := by
  unfold b_g_add_19 at hf
  refine XS.go (s_null rfl) ?_
  cases hf
  exact XR.reta (o := none) rfl rfl (fun hret => ⟨_, hret, ⟨rfl, rfl⟩, L0⟩)
def f_g_add (t : Nat) (a0 : Int64) (a1 : Int64) (h : XH) : Option (Option Nat × XH) := (if t < hz h ∧ hk h t = 4 then (if (hi h t 1) < 0 then (b_g_add_19 h) else (match hr h t 0 with | none => none | some b3 => (if b3 < hz h ∧ hk h b3 = 105 then (if (hi h t 1) < (nI (hn h b3)) then (if 0 ≤ (hi h t 1) ∧ (hi h t 1) < nI (hn h b3) ∧ (hn h b3) < 2 ^ 31 then (match hr h b3 (Int32.toNatClampNeg (hi h t 1)) with | none => none | some b8 => (if b8 < hz h ∧ hk h b8 = 2 then (match f_d_restart b8 a0 a1 h with | none => none | some r11 => (if t < hz r11.2 ∧ hk r11.2 t = 4 then (some (some b8, (hsi r11.2 t 1 ((hi r11.2 t 1) + 1)))) else none)) else none)) else none) else (b_g_add_19 h)) else none))) else none)
set_option maxRecDepth 20000 in
theorem kf_g_add {l : Launch} {G : XG} {d : Nat} {t : Nat} {a0 : Int64} {a1 : Int64} {h : XH} {r : Option Nat × XH} (L0 : LY h) (hf : f_g_add t a0 a1 h = some r) : XC l G xEX4_add (d + 1) [.ref t, .long a0, .long a1] h (fun v h2 => (h2 = r.2 ∧ v = some (va_rf r.1)) ∧ LY r.2) := by
  refine XC.virt xvX4_add (Nat.le_of_ble_eq_true rfl) ?_
  unfold f_g_add at hf
  refine XS.go (s_aloadn rfl rfl rfl) ?_
  by_cases qk1 : t < hz h ∧ hk h t = 4
  rotate_left
  · rw [if_neg qk1] at hf; cases hf
  rw [if_pos qk1] at hf
  refine XS.go (s_getie rfl xf4_7 qk1.1 qk1.2 (by decide) rfl rfl) ?_
  refine r_if_lt (tgt := 19) rfl rfl (fun qc2 => ?_) (fun qc2 => ?_)
  · rw [if_pos qc2] at hf
    exact XR.forget (L2 := [none, none, none, none, none, none]) trivial (kb_g_add_19 L0 hf)
  · rw [if_neg qc2] at hf
    refine XS.go (s_aloadn rfl rfl rfl) ?_
    refine XS.go (s_getie rfl xf4_7 qk1.1 qk1.2 (by decide) rfl rfl) ?_
    refine XS.go (s_aloadn rfl rfl rfl) ?_
    rcases qr4 : hr h t 0 with _ | b3
    · rw [qr4] at hf; cases hf
    rw [qr4] at hf; dsimp only at hf
    refine XS.go (s_getr rfl xf4_15 qk1.1 qk1.2 (by decide) rfl qr4) ?_
    by_cases qk5 : b3 < hz h ∧ hk h b3 = 105
    rotate_left
    · rw [if_neg qk5] at hf; cases hf
    rw [if_pos qk5] at hf
    refine XS.go (s_alene rfl qk5.1 qk5.2 rfl (by decide)) ?_
    refine r_icmp_lt (tgt := 21) rfl rfl (fun qc6 => ?_) (fun qc6 => ?_)
    · rw [if_pos qc6] at hf
      refine XS.go (s_aloadn rfl rfl rfl) ?_
      refine XS.go (s_getr rfl xf4_15 qk1.1 qk1.2 (by decide) rfl qr4) ?_
      refine XS.go (s_aloadn rfl rfl rfl) ?_
      refine XS.go (s_getie rfl xf4_7 qk1.1 qk1.2 (by decide) rfl rfl) ?_
      by_cases qk7 : 0 ≤ (hi h t 1) ∧ (hi h t 1) < nI (hn h b3) ∧ (hn h b3) < 2 ^ 31
      rotate_left
      · rw [if_neg qk7] at hf; cases hf
      rw [if_pos qk7] at hf
      rcases qr9 : hr h b3 (Int32.toNatClampNeg (hi h t 1)) with _ | b8
      · rw [qr9] at hf; cases hf
      rw [qr9] at hf; dsimp only at hf
      refine XS.go (s_aald105e rfl qk5.1 qk5.2 (inLit (N := hn h b3) rfl qk7.1 qk7.2.1 qk7.2.2) qr9) ?_
      refine XS.go (s_astore rfl (Nat.le_of_ble_eq_true rfl)) ?_
      refine XS.go (s_aload rfl rfl) ?_
      refine XS.go (s_lloadn rfl rfl rfl) ?_
      refine XS.go (s_lloadn rfl rfl rfl) ?_
      by_cases qk10 : b8 < hz h ∧ hk h b8 = 2
      rotate_left
      · rw [if_neg qk10] at hf; cases hf
      rw [if_pos qk10] at hf
      rcases e12 : f_d_restart b8 a0 a1 h with _ | r11
      · rw [e12] at hf; cases hf
      rw [e12] at hf; dsimp only at hf
      refine r_callv rfl xvX2_restart xm4_22 (kf_d_restart (d := d) L0 e12) qk10.1 qk10.2 (by decide) rfl rfl (by omega) (by decide) (Nat.le_of_ble_eq_true rfl) ?_
      rintro _ _ ⟨⟨rfl, rfl⟩, L13⟩
      refine XS.go (s_aloadn rfl rfl rfl) ?_
      refine XS.go (s_dup rfl rfl) ?_
      by_cases qk14 : t < hz r11.2 ∧ hk r11.2 t = 4
      rotate_left
      · rw [if_neg qk14] at hf; cases hf
      rw [if_pos qk14] at hf
      refine XS.go (s_getie rfl xf4_7 qk14.1 qk14.2 (by decide) rfl rfl) ?_
      refine XS.go (s_iconst (v := 1) rfl rfl) ?_
      refine XS.go (s_iadd rfl) ?_
      refine XS.go (s_puti rfl xf4_7 qk14.1 qk14.2 (by decide) rfl (Or.inl rfl)) ?_
      refine XS.go (s_aload rfl rfl) ?_
      cases hf
      exact XR.reta (o := (some b8)) rfl rfl (fun hret => ⟨_, hret, ⟨rfl, rfl⟩, (by simp only [LY_si, LY_sj]; exact L13)⟩)
    · rw [if_neg qc6] at hf
      exact XR.forget (L2 := [none, none, none, none, none, none]) trivial (kb_g_add_19 L0 hf)
def f_j_init (t : Nat) (a0 : Nat) (a1 : Nat) (a2 : Int32) (h : XH) : Option (Unit × XH) := (if t < hz h ∧ hk h t = 5 then (if 1317 ≤ t then (if t < hz (hsr (hsi (hsi (hsi h t 3 0) t 4 0) t 5 0) t 0 (some a0)) ∧ hk (hsr (hsi (hsi (hsi h t 3 0) t 4 0) t 5 0) t 0 (some a0)) t = 5 then (if 1317 ≤ t then (if t < hz (hsr (hsr (hsi (hsi (hsi h t 3 0) t 4 0) t 5 0) t 0 (some a0)) t 1 (some a1)) ∧ hk (hsr (hsr (hsi (hsi (hsi h t 3 0) t 4 0) t 5 0) t 0 (some a0)) t 1 (some a1)) t = 5 then (some ((), (hsi (hsr (hsr (hsi (hsi (hsi h t 3 0) t 4 0) t 5 0) t 0 (some a0)) t 1 (some a1)) t 2 a2))) else none) else none) else none) else none) else none)
set_option maxRecDepth 20000 in
theorem kf_j_init {l : Launch} {G : XG} {d : Nat} {t : Nat} {a0 : Nat} {a1 : Nat} {a2 : Int32} {h : XH} {r : Unit × XH} (L0 : LY h) (hf : f_j_init t a0 a1 a2 h = some r) : XC l G xEX5_init (d + 1) [.ref t, .ref a0, .ref a1, .int a2] h (fun v h2 => (h2 = r.2 ∧ v = none) ∧ LY r.2) := by
  refine XC.init xnX5_init (Nat.le_of_ble_eq_true rfl) ?_
  unfold f_j_init at hf
  refine XS.go (s_aloadn rfl rfl rfl) ?_
  refine XS.go (s_objInit rfl (lg_3 180 rfl rfl) (lg_1 33 rfl rfl) (lg_1 34 rfl rfl) (by omega) (Nat.le_of_ble_eq_true rfl)) ?_
  refine XS.go (s_aloadn rfl rfl rfl) ?_
  refine XS.go (s_iconst (v := 0) rfl rfl) ?_
  by_cases qk1 : t < hz h ∧ hk h t = 5
  rotate_left
  · rw [if_neg qk1] at hf; cases hf
  rw [if_pos qk1] at hf
  refine XS.go (s_puti rfl xf5_9 qk1.1 qk1.2 (by decide) rfl (Or.inl rfl)) ?_
  refine XS.go (s_aloadn rfl rfl rfl) ?_
  refine XS.go (s_iconst (v := 0) rfl rfl) ?_
  refine XS.go (s_puti rfl xf5_15 (by simp only [hz_hsi, hk_hsi, hz_hsj, hk_hsj]; exact qk1.1) (by simp only [hz_hsi, hk_hsi, hz_hsj, hk_hsj]; exact qk1.2) (by decide) rfl (Or.inl rfl)) ?_
  refine XS.go (s_aloadn rfl rfl rfl) ?_
  refine XS.go (s_iconst (v := 0) rfl rfl) ?_
  refine XS.go (s_puti rfl xf5_18 (by simp only [hz_hsi, hk_hsi, hz_hsj, hk_hsj]; exact qk1.1) (by simp only [hz_hsi, hk_hsi, hz_hsj, hk_hsj]; exact qk1.2) (by decide) rfl (Or.inl rfl)) ?_
  refine XS.go (s_aloadn rfl rfl rfl) ?_
  refine XS.go (s_aloadn rfl rfl rfl) ?_
  by_cases qk2 : 1317 ≤ t
  rotate_left
  · rw [if_neg qk2] at hf; cases hf
  rw [if_pos qk2] at hf
  have L3 : LY (hsr (hsi (hsi (hsi h t 3 0) t 4 0) t 5 0) t 0 (some a0)) := LY.srv (by simp only [LY_si, LY_sj]; exact L0) qk2
  refine XS.go (s_putr rfl xf5_21 (by simp only [hz_hsi, hk_hsi, hz_hsj, hk_hsj]; exact qk1.1) (by simp only [hz_hsi, hk_hsi, hz_hsj, hk_hsj]; exact qk1.2) (by decide) rfl (Or.inr ⟨rfl, rfl⟩)) ?_
  refine XS.go (s_aloadn rfl rfl rfl) ?_
  refine XS.go (s_aloadn rfl rfl rfl) ?_
  by_cases qk4 : t < hz (hsr (hsi (hsi (hsi h t 3 0) t 4 0) t 5 0) t 0 (some a0)) ∧ hk (hsr (hsi (hsi (hsi h t 3 0) t 4 0) t 5 0) t 0 (some a0)) t = 5
  rotate_left
  · rw [if_neg qk4] at hf; cases hf
  rw [if_pos qk4] at hf
  by_cases qk5 : 1317 ≤ t
  rotate_left
  · rw [if_neg qk5] at hf; cases hf
  rw [if_pos qk5] at hf
  have L6 : LY (hsr (hsr (hsi (hsi (hsi h t 3 0) t 4 0) t 5 0) t 0 (some a0)) t 1 (some a1)) := LY.srv L3 qk5
  refine XS.go (s_putr rfl xf5_25 qk4.1 qk4.2 (by decide) rfl (Or.inr ⟨rfl, rfl⟩)) ?_
  refine XS.go (s_aloadn rfl rfl rfl) ?_
  refine XS.go (s_iloadn rfl rfl rfl) ?_
  by_cases qk7 : t < hz (hsr (hsr (hsi (hsi (hsi h t 3 0) t 4 0) t 5 0) t 0 (some a0)) t 1 (some a1)) ∧ hk (hsr (hsr (hsi (hsi (hsi h t 3 0) t 4 0) t 5 0) t 0 (some a0)) t 1 (some a1)) t = 5
  rotate_left
  · rw [if_neg qk7] at hf; cases hf
  rw [if_pos qk7] at hf
  refine XS.go (s_puti rfl xf5_29 qk7.1 qk7.2 (by decide) rfl (Or.inr ⟨rfl, rfl⟩)) ?_
  cases hf
  exact XR.retv rfl rfl (fun hret => ⟨_, hret, ⟨rfl, rfl⟩, (by simp only [LY_si, LY_sj]; exact L6)⟩)
def f_j_wrong (t : Nat) (a0 : Int32) (a1 : Int64) (h : XH) : Option (Int32 × XH) := (if t < hz h ∧ hk h t = 5 then (some (0, (hsi (hsi h t 4 a0) t 5 (Int64.toInt32 a1)))) else none)
set_option maxRecDepth 20000 in
theorem kf_j_wrong {l : Launch} {G : XG} {d : Nat} {t : Nat} {a0 : Int32} {a1 : Int64} {h : XH} {r : Int32 × XH} (L0 : LY h) (hf : f_j_wrong t a0 a1 h = some r) : XC l G xEX5_wrong d [.ref t, .int a0, .long a1] h (fun v h2 => (h2 = r.2 ∧ v = some (.int r.1)) ∧ LY r.2) := by
  refine XC.virt xvX5_wrong (Nat.le_of_ble_eq_true rfl) ?_
  unfold f_j_wrong at hf
  refine XS.go (s_aloadn rfl rfl rfl) ?_
  refine XS.go (s_iloadn rfl rfl rfl) ?_
  by_cases qk1 : t < hz h ∧ hk h t = 5
  rotate_left
  · rw [if_neg qk1] at hf; cases hf
  rw [if_pos qk1] at hf
  refine XS.go (s_puti rfl xf5_15 qk1.1 qk1.2 (by decide) rfl (Or.inl rfl)) ?_
  refine XS.go (s_aloadn rfl rfl rfl) ?_
  refine XS.go (s_lloadn rfl rfl rfl) ?_
  refine XS.go (s_l2i rfl) ?_
  refine XS.go (s_puti rfl xf5_18 (by simp only [hz_hsi, hk_hsi, hz_hsj, hk_hsj]; exact qk1.1) (by simp only [hz_hsi, hk_hsi, hz_hsj, hk_hsj]; exact qk1.2) (by decide) rfl (Or.inl rfl)) ?_
  refine XS.go (s_iconst (v := 0) rfl rfl) ?_
  cases hf
  exact XR.retz rfl rfl (by decide) (fun hret => ⟨_, hret, ⟨rfl, rfl⟩, (by simp only [LY_si, LY_sj]; exact L0)⟩)
def b_j_isReference_62 (h : XH) : Option (Int32 × XH) := (some (1, h))
set_option maxRecDepth 20000 in
theorem kb_j_isReference_62 {l : Launch} {G : XG} {d : Nat} {h : XH} {r : Int32 × XH} (L0 : LY h) (hf : b_j_isReference_62 h = some r) : XR l G xEX5_isReference (d + 1) (62, [none, none, none, none], [], h) (fun C => ∃ v, xRet xEX5_isReference C v ∧ (C.2.2.2 = r.2 ∧ v = some (.int r.1)) ∧ LY r.2) := by
  unfold b_j_isReference_62 at hf
  refine XS.go (s_iconst (v := 1) rfl rfl) ?_
  refine XS.go (s_goto (tgt := 67) rfl rfl) ?_
  cases hf
  exact XR.retz rfl rfl (by decide) (fun hret => ⟨_, hret, ⟨rfl, rfl⟩, L0⟩)
def b_j_isReference_34 (x0 : Nat) (x1 : Int32) (h : XH) : Option (Int32 × XH) := (if x0 < hz h ∧ hk h x0 = 5 then (match f_j_wrong x0 2 (Int32.toInt64 x1) h with | none => none | some r2 => (if r2.1 = 0 ∨ r2.1 = 1 then (some (r2.1, r2.2)) else none)) else none)
set_option maxRecDepth 20000 in
theorem kb_j_isReference_34 {l : Launch} {G : XG} {d : Nat} {x0 : Nat} {x1 : Int32} {h : XH} {r : Int32 × XH} (L0 : LY h) (hf : b_j_isReference_34 x0 x1 h = some r) : XR l G xEX5_isReference (d + 1) (34, [some (.ref x0), some (.int x1), none, none], [], h) (fun C => ∃ v, xRet xEX5_isReference C v ∧ (C.2.2.2 = r.2 ∧ v = some (.int r.1)) ∧ LY r.2) := by
  unfold b_j_isReference_34 at hf
  refine XS.go (s_aloadn rfl rfl rfl) ?_
  refine XS.go (s_iconst (v := 2) rfl rfl) ?_
  refine XS.go (s_iloadn rfl rfl rfl) ?_
  refine XS.go (s_i2l rfl) ?_
  by_cases qk1 : x0 < hz h ∧ hk h x0 = 5
  rotate_left
  · rw [if_neg qk1] at hf; cases hf
  rw [if_pos qk1] at hf
  rcases e3 : f_j_wrong x0 2 (Int32.toInt64 x1) h with _ | r2
  · rw [e3] at hf; cases hf
  rw [e3] at hf; dsimp only at hf
  refine r_callv rfl xvX5_wrong xm5_32 (kf_j_wrong (d := d) L0 e3) qk1.1 qk1.2 (by decide) rfl rfl (by omega) (by decide) (Nat.le_of_ble_eq_true rfl) ?_
  rintro _ _ ⟨⟨rfl, rfl⟩, L4⟩
  by_cases qk5 : r2.1 = 0 ∨ r2.1 = 1
  rotate_left
  · rw [if_neg qk5] at hf; cases hf
  rw [if_pos qk5] at hf
  cases hf
  exact XR.retz rfl rfl qk5 (fun hret => ⟨_, hret, ⟨rfl, rfl⟩, L4⟩)
def f_j_isReference (t : Nat) (a0 : Int32) (h : XH) : Option (Int32 × XH) := (if t < hz h ∧ hk h t = 5 then (match hr h t 1 with | none => none | some b7 => (if b7 < hz h ∧ hk h b7 = 1 then (match f_b_number b7 a0 4 h with | none => none | some r10 => (if (lg_cmp ((Int32.toInt64 a0) + r10.1) (Int32.toInt64 a0)) = 0 then (b_j_isReference_34 t a0 r10.2) else (if t < hz r10.2 ∧ hk r10.2 t = 5 then (if (lg_cmp (((Int32.toInt64 a0) + r10.1) + 4) (Int32.toInt64 (hi r10.2 t 2))) ≤ 0 then (if (lg_cmp (((Int32.toInt64 a0) + r10.1) &&& 3) 0) = 0 then (b_j_isReference_62 r10.2) else (match f_j_wrong t 3 (Int32.toInt64 a0) r10.2 with | none => none | some r17 => (if r17.1 = 0 then (some (0, r17.2)) else (b_j_isReference_62 r17.2)))) else (b_j_isReference_34 t a0 r10.2)) else none))) else none)) else none)
set_option maxRecDepth 20000 in
theorem kf_j_isReference {l : Launch} {G : XG} {d : Nat} {t : Nat} {a0 : Int32} {h : XH} {r : Int32 × XH} (L0 : LY h) (hf : f_j_isReference t a0 h = some r) : XC l G xEX5_isReference (d + 1) [.ref t, .int a0] h (fun v h2 => (h2 = r.2 ∧ v = some (.int r.1)) ∧ LY r.2) := by
  refine XC.virt xvX5_isReference (Nat.le_of_ble_eq_true rfl) ?_
  unfold f_j_isReference at hf
  refine XS.go (s_iloadn rfl rfl rfl) ?_
  refine XS.go (s_i2l rfl) ?_
  refine XS.go (s_aloadn rfl rfl rfl) ?_
  by_cases qk6 : t < hz h ∧ hk h t = 5
  rotate_left
  · rw [if_neg qk6] at hf; cases hf
  rw [if_pos qk6] at hf
  rcases qr8 : hr h t 1 with _ | b7
  · rw [qr8] at hf; cases hf
  rw [qr8] at hf; dsimp only at hf
  refine XS.go (s_getr rfl xf5_25 qk6.1 qk6.2 (by decide) rfl qr8) ?_
  refine XS.go (s_iloadn rfl rfl rfl) ?_
  refine XS.go (s_iconst (v := 4) rfl rfl) ?_
  by_cases qk9 : b7 < hz h ∧ hk h b7 = 1
  rotate_left
  · rw [if_neg qk9] at hf; cases hf
  rw [if_pos qk9] at hf
  rcases e11 : f_b_number b7 a0 4 h with _ | r10
  · rw [e11] at hf; cases hf
  rw [e11] at hf; dsimp only at hf
  refine r_callv rfl xvX1_number xm5_45 (kf_b_number (d := d) L0 e11) qk9.1 qk9.2 (by decide) rfl rfl (by omega) (by decide) (Nat.le_of_ble_eq_true rfl) ?_
  rintro _ _ ⟨⟨rfl, rfl⟩, L12⟩
  refine XS.go (s_ladd rfl) ?_
  refine XS.go (s_lstoren rfl rfl (Nat.le_of_ble_eq_true rfl)) ?_
  refine XS.go (s_lloadn rfl rfl rfl) ?_
  refine XS.go (s_iloadn rfl rfl rfl) ?_
  refine XS.go (s_i2l rfl) ?_
  refine XS.go (s_lcmp rfl) ?_
  refine r_if_eq (tgt := 34) rfl rfl (fun qc13 => ?_) (fun qc13 => ?_)
  · rw [if_pos qc13] at hf
    exact XR.forget (L2 := [some (.ref t), some (.int a0), none, none]) ⟨rfl, ⟨rfl, trivial⟩⟩ (kb_j_isReference_34 L12 hf)
  · rw [if_neg qc13] at hf
    refine XS.go (s_lloadn rfl rfl rfl) ?_
    refine XS.go (s_ldc2 rfl (lg_3 220 rfl rfl)) ?_
    refine XS.go (s_ladd rfl) ?_
    refine XS.go (s_aloadn rfl rfl rfl) ?_
    by_cases qk14 : t < hz r10.2 ∧ hk r10.2 t = 5
    rotate_left
    · rw [if_neg qk14] at hf; cases hf
    rw [if_pos qk14] at hf
    refine XS.go (s_getie rfl xf5_29 qk14.1 qk14.2 (by decide) rfl rfl) ?_
    refine XS.go (s_i2l rfl) ?_
    refine XS.go (s_lcmp rfl) ?_
    refine r_if_le (tgt := 42) rfl rfl (fun qc15 => ?_) (fun qc15 => ?_)
    · rw [if_pos qc15] at hf
      refine XS.go (s_lloadn rfl rfl rfl) ?_
      refine XS.go (s_ldc2 rfl (lg_3 221 rfl rfl)) ?_
      refine XS.go (s_land rfl) ?_
      refine XS.go (s_lconst (v := 0) rfl rfl) ?_
      refine XS.go (s_lcmp rfl) ?_
      refine r_if_eq (tgt := 62) rfl rfl (fun qc16 => ?_) (fun qc16 => ?_)
      · rw [if_pos qc16] at hf
        exact XR.forget (L2 := [none, none, none, none]) trivial (kb_j_isReference_62 L12 hf)
      · rw [if_neg qc16] at hf
        refine XS.go (s_aloadn rfl rfl rfl) ?_
        refine XS.go (s_iconst (v := 3) rfl rfl) ?_
        refine XS.go (s_iloadn rfl rfl rfl) ?_
        refine XS.go (s_i2l rfl) ?_
        rcases e18 : f_j_wrong t 3 (Int32.toInt64 a0) r10.2 with _ | r17
        · rw [e18] at hf; cases hf
        rw [e18] at hf; dsimp only at hf
        refine r_callv rfl xvX5_wrong xm5_32 (kf_j_wrong (d := d) L12 e18) qk14.1 qk14.2 (by decide) rfl rfl (by omega) (by decide) (Nat.le_of_ble_eq_true rfl) ?_
        rintro _ _ ⟨⟨rfl, rfl⟩, L19⟩
        refine r_if_eq (tgt := 66) rfl rfl (fun qc20 => ?_) (fun qc20 => ?_)
        · rw [if_pos qc20] at hf
          refine XS.go (s_iconst (v := 0) rfl rfl) ?_
          cases hf
          exact XR.retz rfl rfl (by decide) (fun hret => ⟨_, hret, ⟨rfl, rfl⟩, L19⟩)
        · rw [if_neg qc20] at hf
          exact XR.forget (L2 := [none, none, none, none]) trivial (kb_j_isReference_62 L19 hf)
    · rw [if_neg qc15] at hf
      exact XR.forget (L2 := [some (.ref t), some (.int a0), none, none]) ⟨rfl, ⟨rfl, trivial⟩⟩ (kb_j_isReference_34 L12 hf)
def b_j_isStruct_56 (K8 : Nat → Int32 → Nat → Int32 → XH → Option (Int32 × XH)) (x0 : Nat) (x1 : Int32) (x2 : Nat) (x3 : Int32) (h : XH) : Option (Int32 × XH) := (K8 x0 x1 x2 (x3 + 1) h)
set_option maxRecDepth 20000 in
theorem kb_j_isStruct_56 {l : Launch} {G : XG} {d : Nat} {K8 : Nat → Int32 → Nat → Int32 → XH → Option (Int32 × XH)} {x0 : Nat} {x1 : Int32} {x2 : Nat} {x3 : Int32} {h : XH} {r : Int32 × XH} (hK8 : ∀ (x0 : Nat) (x1 : Int32) (x2 : Nat) (x3 : Int32) (h : XH), LY h → K8 x0 x1 x2 x3 h = some r → XR l G xEX5_isStruct (d + 1) (8, [some (.ref x0), some (.int x1), some (.ref x2), some (.int x3), none], [], h) (fun C => ∃ v, xRet xEX5_isStruct C v ∧ (C.2.2.2 = r.2 ∧ v = some (.int r.1)) ∧ LY r.2)) (L0 : LY h) (hf : b_j_isStruct_56 K8 x0 x1 x2 x3 h = some r) : XR l G xEX5_isStruct (d + 1) (56, [some (.ref x0), some (.int x1), some (.ref x2), some (.int x3), none], [], h) (fun C => ∃ v, xRet xEX5_isStruct C v ∧ (C.2.2.2 = r.2 ∧ v = some (.int r.1)) ∧ LY r.2) := by
  unfold b_j_isStruct_56 at hf
  refine XS.go (s_inc rfl rfl (Nat.le_of_ble_eq_true rfl)) ?_
  refine XS.go (s_goto (tgt := 8) rfl rfl) ?_
  exact XR.forget (L2 := [some (.ref x0), some (.int x1), some (.ref x2), some (.int (x3 + 1)), none]) ⟨rfl, ⟨rfl, ⟨rfl, ⟨rfl, trivial⟩⟩⟩⟩ (hK8 x0 x1 x2 (x3 + 1) _ L0 hf)
def s_j_isStruct_8 (K8 : Nat → Int32 → Nat → Int32 → XH → Option (Int32 × XH)) (x0 : Nat) (x1 : Int32) (x2 : Nat) (x3 : Int32) (h : XH) : Option (Int32 × XH) := (if x2 < hz h ∧ hk h x2 = 2 then (if (hi h x2 11) ≤ x3 then (some (1, h)) else (match f_d_leafPlace x2 x3 h with | none => none | some r3 => (if x2 < hz r3.2 ∧ hk r3.2 x2 = 2 then (match f_d_leafScalar x2 x3 r3.2 with | none => none | some r7 => (if ¬ r7.1 = 0 then (b_j_isStruct_56 K8 x0 x1 x2 x3 r7.2) else (if x0 < hz r7.2 ∧ hk r7.2 x0 = 5 then (match hr r7.2 x0 1 with | none => none | some b12 => (if b12 < hz r7.2 ∧ hk r7.2 b12 = 1 then (match f_b_octet b12 (x1 + r3.1) r7.2 with | none => none | some r15 => (if r15.1 ≤ 1 then (b_j_isStruct_56 K8 x0 x1 x2 x3 r15.2) else (if x0 < hz r15.2 ∧ hk r15.2 x0 = 5 then (match f_j_wrong x0 11 (Int32.toInt64 (x1 + r3.1)) r15.2 with | none => none | some r20 => (if r20.1 = 0 ∨ r20.1 = 1 then (some (r20.1, r20.2)) else none)) else none))) else none)) else none))) else none))) else none)
set_option maxRecDepth 20000 in
theorem ks_j_isStruct_8 {l : Launch} {G : XG} {d : Nat} {K8 : Nat → Int32 → Nat → Int32 → XH → Option (Int32 × XH)} {x0 : Nat} {x1 : Int32} {x2 : Nat} {x3 : Int32} {h : XH} {r : Int32 × XH} (hK8 : ∀ (x0 : Nat) (x1 : Int32) (x2 : Nat) (x3 : Int32) (h : XH), LY h → K8 x0 x1 x2 x3 h = some r → XR l G xEX5_isStruct (d + 1) (8, [some (.ref x0), some (.int x1), some (.ref x2), some (.int x3), none], [], h) (fun C => ∃ v, xRet xEX5_isStruct C v ∧ (C.2.2.2 = r.2 ∧ v = some (.int r.1)) ∧ LY r.2)) (L0 : LY h) (hf : s_j_isStruct_8 K8 x0 x1 x2 x3 h = some r) : XR l G xEX5_isStruct (d + 1) (8, [some (.ref x0), some (.int x1), some (.ref x2), some (.int x3), none], [], h) (fun C => ∃ v, xRet xEX5_isStruct C v ∧ (C.2.2.2 = r.2 ∧ v = some (.int r.1)) ∧ LY r.2) := by
  unfold s_j_isStruct_8 at hf
  refine XS.go (s_iloadn rfl rfl rfl) ?_
  refine XS.go (s_aloadn rfl rfl rfl) ?_
  by_cases qk1 : x2 < hz h ∧ hk h x2 = 2
  rotate_left
  · rw [if_neg qk1] at hf; cases hf
  rw [if_pos qk1] at hf
  refine XS.go (s_getie rfl xf5_163 qk1.1 qk1.2 (by decide) rfl rfl) ?_
  refine r_icmp_ge (tgt := 62) rfl rfl (fun qc2 => ?_) (fun qc2 => ?_)
  · rw [if_pos qc2] at hf
    refine XS.go (s_iconst (v := 1) rfl rfl) ?_
    cases hf
    exact XR.retz rfl rfl (by decide) (fun hret => ⟨_, hret, ⟨rfl, rfl⟩, L0⟩)
  · rw [if_neg qc2] at hf
    refine XS.go (s_iloadn rfl rfl rfl) ?_
    refine XS.go (s_aloadn rfl rfl rfl) ?_
    refine XS.go (s_iloadn rfl rfl rfl) ?_
    rcases e4 : f_d_leafPlace x2 x3 h with _ | r3
    · rw [e4] at hf; cases hf
    rw [e4] at hf; dsimp only at hf
    refine r_callv rfl xvX2_leafPlace xm5_166 (kf_d_leafPlace (d := d) L0 e4) qk1.1 qk1.2 (by decide) rfl rfl (by omega) (by decide) (Nat.le_of_ble_eq_true rfl) ?_
    rintro _ _ ⟨⟨rfl, rfl⟩, L5⟩
    refine XS.go (s_iadd rfl) ?_
    refine XS.go (s_istore rfl (Nat.le_of_ble_eq_true rfl)) ?_
    refine XS.go (s_aloadn rfl rfl rfl) ?_
    refine XS.go (s_iloadn rfl rfl rfl) ?_
    by_cases qk6 : x2 < hz r3.2 ∧ hk r3.2 x2 = 2
    rotate_left
    · rw [if_neg qk6] at hf; cases hf
    rw [if_pos qk6] at hf
    rcases e8 : f_d_leafScalar x2 x3 r3.2 with _ | r7
    · rw [e8] at hf; cases hf
    rw [e8] at hf; dsimp only at hf
    refine r_callv rfl xvX2_leafScalar xm5_169 (kf_d_leafScalar (d := d) L5 e8) qk6.1 qk6.2 (by decide) rfl rfl (by omega) (by decide) (Nat.le_of_ble_eq_true rfl) ?_
    rintro _ _ ⟨⟨rfl, rfl⟩, L9⟩
    refine r_if_ne (tgt := 56) rfl rfl (fun qc10 => ?_) (fun qc10 => ?_)
    · rw [if_pos qc10] at hf
      exact XR.forget (L2 := [some (.ref x0), some (.int x1), some (.ref x2), some (.int x3), none]) ⟨rfl, ⟨rfl, ⟨rfl, ⟨rfl, trivial⟩⟩⟩⟩ (kb_j_isStruct_56 hK8 L9 hf)
    · rw [if_neg qc10] at hf
      refine XS.go (s_aloadn rfl rfl rfl) ?_
      by_cases qk11 : x0 < hz r7.2 ∧ hk r7.2 x0 = 5
      rotate_left
      · rw [if_neg qk11] at hf; cases hf
      rw [if_pos qk11] at hf
      rcases qr13 : hr r7.2 x0 1 with _ | b12
      · rw [qr13] at hf; cases hf
      rw [qr13] at hf; dsimp only at hf
      refine XS.go (s_getr rfl xf5_25 qk11.1 qk11.2 (by decide) rfl qr13) ?_
      refine XS.go (s_iload rfl rfl) ?_
      by_cases qk14 : b12 < hz r7.2 ∧ hk r7.2 b12 = 1
      rotate_left
      · rw [if_neg qk14] at hf; cases hf
      rw [if_pos qk14] at hf
      rcases e16 : f_b_octet b12 (x1 + r3.1) r7.2 with _ | r15
      · rw [e16] at hf; cases hf
      rw [e16] at hf; dsimp only at hf
      refine r_callv rfl xvX1_octet xm5_143 (kf_b_octet (d := d) L9 e16) qk14.1 qk14.2 (by decide) rfl rfl (by omega) (by decide) (Nat.le_of_ble_eq_true rfl) ?_
      rintro _ _ ⟨⟨rfl, rfl⟩, L17⟩
      refine XS.go (s_iconst (v := 1) rfl rfl) ?_
      refine r_icmp_le (tgt := 56) rfl rfl (fun qc18 => ?_) (fun qc18 => ?_)
      · rw [if_pos qc18] at hf
        exact XR.forget (L2 := [some (.ref x0), some (.int x1), some (.ref x2), some (.int x3), none]) ⟨rfl, ⟨rfl, ⟨rfl, ⟨rfl, trivial⟩⟩⟩⟩ (kb_j_isStruct_56 hK8 L17 hf)
      · rw [if_neg qc18] at hf
        refine XS.go (s_aloadn rfl rfl rfl) ?_
        refine XS.go (s_bipush (v := 11) rfl rfl) ?_
        refine XS.go (s_iload rfl rfl) ?_
        refine XS.go (s_i2l rfl) ?_
        by_cases qk19 : x0 < hz r15.2 ∧ hk r15.2 x0 = 5
        rotate_left
        · rw [if_neg qk19] at hf; cases hf
        rw [if_pos qk19] at hf
        rcases e21 : f_j_wrong x0 11 (Int32.toInt64 (x1 + r3.1)) r15.2 with _ | r20
        · rw [e21] at hf; cases hf
        rw [e21] at hf; dsimp only at hf
        refine r_callv rfl xvX5_wrong xm5_32 (kf_j_wrong (d := d) L17 e21) qk19.1 qk19.2 (by decide) rfl rfl (by omega) (by decide) (Nat.le_of_ble_eq_true rfl) ?_
        rintro _ _ ⟨⟨rfl, rfl⟩, L22⟩
        by_cases qk23 : r20.1 = 0 ∨ r20.1 = 1
        rotate_left
        · rw [if_neg qk23] at hf; cases hf
        rw [if_pos qk23] at hf
        cases hf
        exact XR.retz rfl rfl qk23 (fun hret => ⟨_, hret, ⟨rfl, rfl⟩, L22⟩)
def b_j_isStruct_8 : Nat → Nat → Int32 → Nat → Int32 → XH → Option (Int32 × XH)
  | 0, _, _, _, _, _ => none
  | n + 1, x0, x1, x2, x3, h => s_j_isStruct_8 (b_j_isStruct_8 n) x0 x1 x2 x3 h
theorem kb_j_isStruct_8 {l : Launch} {G : XG} {d : Nat} {n : Nat} {x0 : Nat} {x1 : Int32} {x2 : Nat} {x3 : Int32} {h : XH} {r : Int32 × XH} (L0 : LY h) (hf : b_j_isStruct_8 n x0 x1 x2 x3 h = some r) : XR l G xEX5_isStruct (d + 1) (8, [some (.ref x0), some (.int x1), some (.ref x2), some (.int x3), none], [], h) (fun C => ∃ v, xRet xEX5_isStruct C v ∧ (C.2.2.2 = r.2 ∧ v = some (.int r.1)) ∧ LY r.2) := by
  induction n generalizing x0 x1 x2 x3 h with
  | zero => cases hf
  | succ n ih => exact ks_j_isStruct_8 (fun x0 x1 x2 x3 h L0 hf => ih (h := h) (x0 := x0) (x1 := x1) (x2 := x2) (x3 := x3) L0 hf) L0 hf
def f_j_isStruct (t : Nat) (a0 : Int32) (a1 : Nat) (h : XH) : Option (Int32 × XH) := (b_j_isStruct_8 100000 t a0 a1 0 h)
set_option maxRecDepth 20000 in
theorem kf_j_isStruct {l : Launch} {G : XG} {d : Nat} {t : Nat} {a0 : Int32} {a1 : Nat} {h : XH} {r : Int32 × XH} (L0 : LY h) (hf : f_j_isStruct t a0 a1 h = some r) : XC l G xEX5_isStruct (d + 1) [.ref t, .int a0, .ref a1] h (fun v h2 => (h2 = r.2 ∧ v = some (.int r.1)) ∧ LY r.2) := by
  refine XC.virt xvX5_isStruct (Nat.le_of_ble_eq_true rfl) ?_
  unfold f_j_isStruct at hf
  refine XS.go (s_aloadn rfl rfl rfl) ?_
  refine XS.go (s_ifnonnull_r (tgt := 6) rfl rfl) ?_
  refine XS.go (s_iconst (v := 0) rfl rfl) ?_
  refine XS.go (s_istoren rfl rfl (Nat.le_of_ble_eq_true rfl)) ?_
  exact XR.forget (L2 := [some (.ref t), some (.int a0), some (.ref a1), some (.int 0), none]) ⟨rfl, ⟨rfl, ⟨rfl, ⟨rfl, trivial⟩⟩⟩⟩ (kb_j_isStruct_8 L0 hf)
def b_j_isText_58 (h : XH) : Option (Int32 × XH) := (some (1, h))
set_option maxRecDepth 20000 in
theorem kb_j_isText_58 {l : Launch} {G : XG} {d : Nat} {h : XH} {r : Int32 × XH} (L0 : LY h) (hf : b_j_isText_58 h = some r) : XR l G xEX5_isText (d + 1) (58, [none, none, none, none], [], h) (fun C => ∃ v, xRet xEX5_isText C v ∧ (C.2.2.2 = r.2 ∧ v = some (.int r.1)) ∧ LY r.2) := by
  unfold b_j_isText_58 at hf
  refine XS.go (s_iconst (v := 1) rfl rfl) ?_
  refine XS.go (s_goto (tgt := 63) rfl rfl) ?_
  cases hf
  exact XR.retz rfl rfl (by decide) (fun hret => ⟨_, hret, ⟨rfl, rfl⟩, L0⟩)
def f_j_isText (t : Nat) (a0 : Int32) (h : XH) : Option (Int32 × XH) := (if t < hz h ∧ hk h t = 5 then (match hr h t 1 with | none => none | some b2 => (if b2 < hz h ∧ hk h b2 = 1 then (match f_b_number b2 a0 4 h with | none => none | some r5 => (if t < hz r5.2 ∧ hk r5.2 t = 5 then (if (lg_cmp (((Int32.toInt64 (a0 + 4)) + r5.1) + 1) (Int32.toInt64 (hi r5.2 t 2))) ≤ 0 then (match hr r5.2 t 1 with | none => none | some b10 => (if b10 < hz r5.2 ∧ hk r5.2 b10 = 1 then (match f_b_octet b10 (Int64.toInt32 ((Int32.toInt64 (a0 + 4)) + r5.1)) r5.2 with | none => none | some r13 => (if r13.1 = 0 then (b_j_isText_58 r13.2) else (if t < hz r13.2 ∧ hk r13.2 t = 5 then (match f_j_wrong t 14 ((Int32.toInt64 (a0 + 4)) + r5.1) r13.2 with | none => none | some r18 => (if r18.1 = 0 then (some (0, r18.2)) else (b_j_isText_58 r18.2))) else none))) else none)) else (match f_j_wrong t 13 (Int32.toInt64 a0) r5.2 with | none => none | some r22 => (if r22.1 = 0 ∨ r22.1 = 1 then (some (r22.1, r22.2)) else none))) else none)) else none)) else none)
set_option maxRecDepth 20000 in
theorem kf_j_isText {l : Launch} {G : XG} {d : Nat} {t : Nat} {a0 : Int32} {h : XH} {r : Int32 × XH} (L0 : LY h) (hf : f_j_isText t a0 h = some r) : XC l G xEX5_isText (d + 1) [.ref t, .int a0] h (fun v h2 => (h2 = r.2 ∧ v = some (.int r.1)) ∧ LY r.2) := by
  refine XC.virt xvX5_isText (Nat.le_of_ble_eq_true rfl) ?_
  unfold f_j_isText at hf
  refine XS.go (s_iloadn rfl rfl rfl) ?_
  refine XS.go (s_iconst (v := 4) rfl rfl) ?_
  refine XS.go (s_iadd rfl) ?_
  refine XS.go (s_i2l rfl) ?_
  refine XS.go (s_aloadn rfl rfl rfl) ?_
  by_cases qk1 : t < hz h ∧ hk h t = 5
  rotate_left
  · rw [if_neg qk1] at hf; cases hf
  rw [if_pos qk1] at hf
  rcases qr3 : hr h t 1 with _ | b2
  · rw [qr3] at hf; cases hf
  rw [qr3] at hf; dsimp only at hf
  refine XS.go (s_getr rfl xf5_25 qk1.1 qk1.2 (by decide) rfl qr3) ?_
  refine XS.go (s_iloadn rfl rfl rfl) ?_
  refine XS.go (s_iconst (v := 4) rfl rfl) ?_
  by_cases qk4 : b2 < hz h ∧ hk h b2 = 1
  rotate_left
  · rw [if_neg qk4] at hf; cases hf
  rw [if_pos qk4] at hf
  rcases e6 : f_b_number b2 a0 4 h with _ | r5
  · rw [e6] at hf; cases hf
  rw [e6] at hf; dsimp only at hf
  refine r_callv rfl xvX1_number xm5_45 (kf_b_number (d := d) L0 e6) qk4.1 qk4.2 (by decide) rfl rfl (by omega) (by decide) (Nat.le_of_ble_eq_true rfl) ?_
  rintro _ _ ⟨⟨rfl, rfl⟩, L7⟩
  refine XS.go (s_ladd rfl) ?_
  refine XS.go (s_lstoren rfl rfl (Nat.le_of_ble_eq_true rfl)) ?_
  refine XS.go (s_lloadn rfl rfl rfl) ?_
  refine XS.go (s_lconst (v := 1) rfl rfl) ?_
  refine XS.go (s_ladd rfl) ?_
  refine XS.go (s_aloadn rfl rfl rfl) ?_
  by_cases qk8 : t < hz r5.2 ∧ hk r5.2 t = 5
  rotate_left
  · rw [if_neg qk8] at hf; cases hf
  rw [if_pos qk8] at hf
  refine XS.go (s_getie rfl xf5_29 qk8.1 qk8.2 (by decide) rfl rfl) ?_
  refine XS.go (s_i2l rfl) ?_
  refine XS.go (s_lcmp rfl) ?_
  refine r_if_le (tgt := 36) rfl rfl (fun qc9 => ?_) (fun qc9 => ?_)
  · rw [if_pos qc9] at hf
    refine XS.go (s_aloadn rfl rfl rfl) ?_
    rcases qr11 : hr r5.2 t 1 with _ | b10
    · rw [qr11] at hf; cases hf
    rw [qr11] at hf; dsimp only at hf
    refine XS.go (s_getr rfl xf5_25 qk8.1 qk8.2 (by decide) rfl qr11) ?_
    refine XS.go (s_lloadn rfl rfl rfl) ?_
    refine XS.go (s_l2i rfl) ?_
    by_cases qk12 : b10 < hz r5.2 ∧ hk r5.2 b10 = 1
    rotate_left
    · rw [if_neg qk12] at hf; cases hf
    rw [if_pos qk12] at hf
    rcases e14 : f_b_octet b10 (Int64.toInt32 ((Int32.toInt64 (a0 + 4)) + r5.1)) r5.2 with _ | r13
    · rw [e14] at hf; cases hf
    rw [e14] at hf; dsimp only at hf
    refine r_callv rfl xvX1_octet xm5_143 (kf_b_octet (d := d) L7 e14) qk12.1 qk12.2 (by decide) rfl rfl (by omega) (by decide) (Nat.le_of_ble_eq_true rfl) ?_
    rintro _ _ ⟨⟨rfl, rfl⟩, L15⟩
    refine r_if_eq (tgt := 58) rfl rfl (fun qc16 => ?_) (fun qc16 => ?_)
    · rw [if_pos qc16] at hf
      exact XR.forget (L2 := [none, none, none, none]) trivial (kb_j_isText_58 L15 hf)
    · rw [if_neg qc16] at hf
      refine XS.go (s_aloadn rfl rfl rfl) ?_
      refine XS.go (s_bipush (v := 14) rfl rfl) ?_
      refine XS.go (s_lloadn rfl rfl rfl) ?_
      by_cases qk17 : t < hz r13.2 ∧ hk r13.2 t = 5
      rotate_left
      · rw [if_neg qk17] at hf; cases hf
      rw [if_pos qk17] at hf
      rcases e19 : f_j_wrong t 14 ((Int32.toInt64 (a0 + 4)) + r5.1) r13.2 with _ | r18
      · rw [e19] at hf; cases hf
      rw [e19] at hf; dsimp only at hf
      refine r_callv rfl xvX5_wrong xm5_32 (kf_j_wrong (d := d) L15 e19) qk17.1 qk17.2 (by decide) rfl rfl (by omega) (by decide) (Nat.le_of_ble_eq_true rfl) ?_
      rintro _ _ ⟨⟨rfl, rfl⟩, L20⟩
      refine r_if_eq (tgt := 62) rfl rfl (fun qc21 => ?_) (fun qc21 => ?_)
      · rw [if_pos qc21] at hf
        refine XS.go (s_iconst (v := 0) rfl rfl) ?_
        cases hf
        exact XR.retz rfl rfl (by decide) (fun hret => ⟨_, hret, ⟨rfl, rfl⟩, L20⟩)
      · rw [if_neg qc21] at hf
        exact XR.forget (L2 := [none, none, none, none]) trivial (kb_j_isText_58 L20 hf)
  · rw [if_neg qc9] at hf
    refine XS.go (s_aloadn rfl rfl rfl) ?_
    refine XS.go (s_bipush (v := 13) rfl rfl) ?_
    refine XS.go (s_iloadn rfl rfl rfl) ?_
    refine XS.go (s_i2l rfl) ?_
    rcases e23 : f_j_wrong t 13 (Int32.toInt64 a0) r5.2 with _ | r22
    · rw [e23] at hf; cases hf
    rw [e23] at hf; dsimp only at hf
    refine r_callv rfl xvX5_wrong xm5_32 (kf_j_wrong (d := d) L7 e23) qk8.1 qk8.2 (by decide) rfl rfl (by omega) (by decide) (Nat.le_of_ble_eq_true rfl) ?_
    rintro _ _ ⟨⟨rfl, rfl⟩, L24⟩
    by_cases qk25 : r22.1 = 0 ∨ r22.1 = 1
    rotate_left
    · rw [if_neg qk25] at hf; cases hf
    rw [if_pos qk25] at hf
    cases hf
    exact XR.retz rfl rfl qk25 (fun hret => ⟨_, hret, ⟨rfl, rfl⟩, L24⟩)
def b_j_isEmptyUnion_55 (h : XH) : Option (Int32 × XH) := (some (1, h))
set_option maxRecDepth 20000 in
theorem kb_j_isEmptyUnion_55 {l : Launch} {G : XG} {d : Nat} {h : XH} {r : Int32 × XH} (L0 : LY h) (hf : b_j_isEmptyUnion_55 h = some r) : XR l G xEX5_isEmptyUnion (d + 2) (55, [none, none, none, none, none], [], h) (fun C => ∃ v, xRet xEX5_isEmptyUnion C v ∧ (C.2.2.2 = r.2 ∧ v = some (.int r.1)) ∧ LY r.2) := by
  unfold b_j_isEmptyUnion_55 at hf
  refine XS.go (s_iconst (v := 1) rfl rfl) ?_
  refine XS.go (s_goto (tgt := 60) rfl rfl) ?_
  cases hf
  exact XR.retz rfl rfl (by decide) (fun hret => ⟨_, hret, ⟨rfl, rfl⟩, L0⟩)
def f_j_isEmptyUnion (t : Nat) (a0 : Int32) (a1 : Int32) (a2 : Nat) (h : XH) : Option (Int32 × XH) := (if a2 < hz h ∧ hk h a2 = 3 then (if t < hz h ∧ hk h t = 5 then (match hr h t 1 with | none => none | some b3 => (if b3 < hz h ∧ hk h b3 = 1 then (match f_b_slotNumber b3 a1 ((hi h a2 6) + 1) h with | none => none | some r6 => (if r6.1 = 0 then (if a2 < hz r6.2 ∧ hk r6.2 a2 = 3 then (if (hi r6.2 a2 7) = 0 then (b_j_isEmptyUnion_55 r6.2) else (if t < hz r6.2 ∧ hk r6.2 t = 5 then (match f_j_wrong t 9 (Int32.toInt64 a0) r6.2 with | none => none | some r13 => (if r13.1 = 0 then (some (0, r13.2)) else (b_j_isEmptyUnion_55 r13.2))) else none)) else none) else (if t < hz r6.2 ∧ hk r6.2 t = 5 then (match f_j_wrong t 12 (Int32.toInt64 ((a1 + 4) + (2 * ((hi h a2 6) + 1)))) r6.2 with | none => none | some r18 => (if r18.1 = 0 ∨ r18.1 = 1 then (some (r18.1, r18.2)) else none)) else none))) else none)) else none) else none)
set_option maxRecDepth 20000 in
theorem kf_j_isEmptyUnion {l : Launch} {G : XG} {d : Nat} {t : Nat} {a0 : Int32} {a1 : Int32} {a2 : Nat} {h : XH} {r : Int32 × XH} (L0 : LY h) (hf : f_j_isEmptyUnion t a0 a1 a2 h = some r) : XC l G xEX5_isEmptyUnion (d + 2) [.ref t, .int a0, .int a1, .ref a2] h (fun v h2 => (h2 = r.2 ∧ v = some (.int r.1)) ∧ LY r.2) := by
  refine XC.virt xvX5_isEmptyUnion (Nat.le_of_ble_eq_true rfl) ?_
  unfold f_j_isEmptyUnion at hf
  refine XS.go (s_aloadn rfl rfl rfl) ?_
  by_cases qk1 : a2 < hz h ∧ hk h a2 = 3
  rotate_left
  · rw [if_neg qk1] at hf; cases hf
  rw [if_pos qk1] at hf
  refine XS.go (s_getie rfl xf5_103 qk1.1 qk1.2 (by decide) rfl rfl) ?_
  refine XS.go (s_iconst (v := 1) rfl rfl) ?_
  refine XS.go (s_iadd rfl) ?_
  refine XS.go (s_istore rfl (Nat.le_of_ble_eq_true rfl)) ?_
  refine XS.go (s_aloadn rfl rfl rfl) ?_
  by_cases qk2 : t < hz h ∧ hk h t = 5
  rotate_left
  · rw [if_neg qk2] at hf; cases hf
  rw [if_pos qk2] at hf
  rcases qr4 : hr h t 1 with _ | b3
  · rw [qr4] at hf; cases hf
  rw [qr4] at hf; dsimp only at hf
  refine XS.go (s_getr rfl xf5_25 qk2.1 qk2.2 (by decide) rfl qr4) ?_
  refine XS.go (s_iloadn rfl rfl rfl) ?_
  refine XS.go (s_iload rfl rfl) ?_
  by_cases qk5 : b3 < hz h ∧ hk h b3 = 1
  rotate_left
  · rw [if_neg qk5] at hf; cases hf
  rw [if_pos qk5] at hf
  rcases e7 : f_b_slotNumber b3 a1 ((hi h a2 6) + 1) h with _ | r6
  · rw [e7] at hf; cases hf
  rw [e7] at hf; dsimp only at hf
  refine r_callv rfl xvX1_slotNumber xm5_106 (kf_b_slotNumber (d := d) L0 e7) qk5.1 qk5.2 (by decide) rfl rfl (by omega) (by decide) (Nat.le_of_ble_eq_true rfl) ?_
  rintro _ _ ⟨⟨rfl, rfl⟩, L8⟩
  refine r_if_eq (tgt := 37) rfl rfl (fun qc9 => ?_) (fun qc9 => ?_)
  · rw [if_pos qc9] at hf
    refine XS.go (s_aloadn rfl rfl rfl) ?_
    by_cases qk10 : a2 < hz r6.2 ∧ hk r6.2 a2 = 3
    rotate_left
    · rw [if_neg qk10] at hf; cases hf
    rw [if_pos qk10] at hf
    refine XS.go (s_getze rfl xf5_110 qk10.1 qk10.2 (by decide) rfl rfl) ?_
    refine r_if_eq (tgt := 55) rfl rfl (fun qc11 => ?_) (fun qc11 => ?_)
    · rw [if_pos qc11] at hf
      exact XR.forget (L2 := [none, none, none, none, none]) trivial (kb_j_isEmptyUnion_55 L8 hf)
    · rw [if_neg qc11] at hf
      refine XS.go (s_aloadn rfl rfl rfl) ?_
      refine XS.go (s_bipush (v := 9) rfl rfl) ?_
      refine XS.go (s_iloadn rfl rfl rfl) ?_
      refine XS.go (s_i2l rfl) ?_
      by_cases qk12 : t < hz r6.2 ∧ hk r6.2 t = 5
      rotate_left
      · rw [if_neg qk12] at hf; cases hf
      rw [if_pos qk12] at hf
      rcases e14 : f_j_wrong t 9 (Int32.toInt64 a0) r6.2 with _ | r13
      · rw [e14] at hf; cases hf
      rw [e14] at hf; dsimp only at hf
      refine r_callv rfl xvX5_wrong xm5_32 (kf_j_wrong (d := d) L8 e14) qk12.1 qk12.2 (by decide) rfl rfl (by omega) (by decide) (Nat.le_of_ble_eq_true rfl) ?_
      rintro _ _ ⟨⟨rfl, rfl⟩, L15⟩
      refine r_if_eq (tgt := 59) rfl rfl (fun qc16 => ?_) (fun qc16 => ?_)
      · rw [if_pos qc16] at hf
        refine XS.go (s_iconst (v := 0) rfl rfl) ?_
        cases hf
        exact XR.retz rfl rfl (by decide) (fun hret => ⟨_, hret, ⟨rfl, rfl⟩, L15⟩)
      · rw [if_neg qc16] at hf
        exact XR.forget (L2 := [none, none, none, none, none]) trivial (kb_j_isEmptyUnion_55 L15 hf)
  · rw [if_neg qc9] at hf
    refine XS.go (s_aloadn rfl rfl rfl) ?_
    refine XS.go (s_bipush (v := 12) rfl rfl) ?_
    refine XS.go (s_iloadn rfl rfl rfl) ?_
    refine XS.go (s_iconst (v := 4) rfl rfl) ?_
    refine XS.go (s_iadd rfl) ?_
    refine XS.go (s_iconst (v := 2) rfl rfl) ?_
    refine XS.go (s_iload rfl rfl) ?_
    refine XS.go (s_imul rfl) ?_
    refine XS.go (s_iadd rfl) ?_
    refine XS.go (s_i2l rfl) ?_
    by_cases qk17 : t < hz r6.2 ∧ hk r6.2 t = 5
    rotate_left
    · rw [if_neg qk17] at hf; cases hf
    rw [if_pos qk17] at hf
    rcases e19 : f_j_wrong t 12 (Int32.toInt64 ((a1 + 4) + (2 * ((hi h a2 6) + 1)))) r6.2 with _ | r18
    · rw [e19] at hf; cases hf
    rw [e19] at hf; dsimp only at hf
    refine r_callv rfl xvX5_wrong xm5_32 (kf_j_wrong (d := d) L8 e19) qk17.1 qk17.2 (by decide) rfl rfl (by omega) (by decide) (Nat.le_of_ble_eq_true rfl) ?_
    rintro _ _ ⟨⟨rfl, rfl⟩, L20⟩
    by_cases qk21 : r18.1 = 0 ∨ r18.1 = 1
    rotate_left
    · rw [if_neg qk21] at hf; cases hf
    rw [if_pos qk21] at hf
    cases hf
    exact XR.retz rfl rfl qk21 (fun hret => ⟨_, hret, ⟨rfl, rfl⟩, L20⟩)
def f_t_isAligned (a0 : Int32) (a1 : Int32) (h : XH) : Option (Int32 × XH) := (if ¬ (a0 &&& (a1 - 1)) = 0 then (some (0, h)) else (some (1, h)))
set_option maxRecDepth 20000 in
theorem kf_t_isAligned {l : Launch} {G : XG} {d : Nat} {a0 : Int32} {a1 : Int32} {h : XH} {r : Int32 × XH} (L0 : LY h) (hf : f_t_isAligned a0 a1 h = some r) : XC l G xEX11_isAligned d [.int a0, .int a1] h (fun v h2 => (h2 = r.2 ∧ v = some (.int r.1)) ∧ LY r.2) := by
  refine XC.stat xsX11_isAligned (Nat.le_of_ble_eq_true rfl) ?_
  unfold f_t_isAligned at hf
  refine XS.go (s_iloadn rfl rfl rfl) ?_
  refine XS.go (s_iloadn rfl rfl rfl) ?_
  refine XS.go (s_iconst (v := 1) rfl rfl) ?_
  refine XS.go (s_isub rfl) ?_
  refine XS.go (s_iand rfl) ?_
  refine r_if_ne (tgt := 12) rfl rfl (fun qc1 => ?_) (fun qc1 => ?_)
  · rw [if_pos qc1] at hf
    refine XS.go (s_iconst (v := 0) rfl rfl) ?_
    cases hf
    exact XR.retz rfl rfl (by decide) (fun hret => ⟨_, hret, ⟨rfl, rfl⟩, L0⟩)
  · rw [if_neg qc1] at hf
    refine XS.go (s_iconst (v := 1) rfl rfl) ?_
    refine XS.go (s_goto (tgt := 13) rfl rfl) ?_
    cases hf
    exact XR.retz rfl rfl (by decide) (fun hret => ⟨_, hret, ⟨rfl, rfl⟩, L0⟩)
def b_j_liesWell_82 (h : XH) : Option (Int32 × XH) := (some (1, h))
set_option maxRecDepth 20000 in
theorem kb_j_liesWell_82 {l : Launch} {G : XG} {d : Nat} {h : XH} {r : Int32 × XH} (L0 : LY h) (hf : b_j_liesWell_82 h = some r) : XR l G xEX5_liesWell (d + 1) (82, [none, none, none, none, none, none, none, none], [], h) (fun C => ∃ v, xRet xEX5_liesWell C v ∧ (C.2.2.2 = r.2 ∧ v = some (.int r.1)) ∧ LY r.2) := by
  unfold b_j_liesWell_82 at hf
  refine XS.go (s_iconst (v := 1) rfl rfl) ?_
  refine XS.go (s_goto (tgt := 87) rfl rfl) ?_
  cases hf
  exact XR.retz rfl rfl (by decide) (fun hret => ⟨_, hret, ⟨rfl, rfl⟩, L0⟩)
def b_j_liesWell_49 (x0 : Nat) (x6 : Int32) (h : XH) : Option (Int32 × XH) := (if x0 < hz h ∧ hk h x0 = 5 then (match f_j_wrong x0 10 (Int32.toInt64 x6) h with | none => none | some r2 => (if r2.1 = 0 ∨ r2.1 = 1 then (some (r2.1, r2.2)) else none)) else none)
set_option maxRecDepth 20000 in
theorem kb_j_liesWell_49 {l : Launch} {G : XG} {d : Nat} {x0 : Nat} {x6 : Int32} {h : XH} {r : Int32 × XH} (L0 : LY h) (hf : b_j_liesWell_49 x0 x6 h = some r) : XR l G xEX5_liesWell (d + 1) (49, [some (.ref x0), none, none, none, none, none, some (.int x6), none], [], h) (fun C => ∃ v, xRet xEX5_liesWell C v ∧ (C.2.2.2 = r.2 ∧ v = some (.int r.1)) ∧ LY r.2) := by
  unfold b_j_liesWell_49 at hf
  refine XS.go (s_aloadn rfl rfl rfl) ?_
  refine XS.go (s_bipush (v := 10) rfl rfl) ?_
  refine XS.go (s_iload rfl rfl) ?_
  refine XS.go (s_i2l rfl) ?_
  by_cases qk1 : x0 < hz h ∧ hk h x0 = 5
  rotate_left
  · rw [if_neg qk1] at hf; cases hf
  rw [if_pos qk1] at hf
  rcases e3 : f_j_wrong x0 10 (Int32.toInt64 x6) h with _ | r2
  · rw [e3] at hf; cases hf
  rw [e3] at hf; dsimp only at hf
  refine r_callv rfl xvX5_wrong xm5_32 (kf_j_wrong (d := d) L0 e3) qk1.1 qk1.2 (by decide) rfl rfl (by omega) (by decide) (Nat.le_of_ble_eq_true rfl) ?_
  rintro _ _ ⟨⟨rfl, rfl⟩, L4⟩
  by_cases qk5 : r2.1 = 0 ∨ r2.1 = 1
  rotate_left
  · rw [if_neg qk5] at hf; cases hf
  rw [if_pos qk5] at hf
  cases hf
  exact XR.retz rfl rfl qk5 (fun hret => ⟨_, hret, ⟨rfl, rfl⟩, L4⟩)
def f_j_liesWell (t : Nat) (a0 : Int32) (a1 : Int32) (a2 : Int32) (a3 : Int32) (a4 : Int32) (h : XH) : Option (Int32 × XH) := (if t < hz h ∧ hk h t = 5 then (match hr h t 1 with | none => none | some b7 => (if b7 < hz h ∧ hk h b7 = 1 then (match f_b_number b7 ((a1 + 4) + (2 * a2)) 2 h with | none => none | some r10 => (if (Int64.toInt32 r10.1) < 4 then (b_j_liesWell_49 t ((a1 + 4) + (2 * a2)) r10.2) else (if t < hz r10.2 ∧ hk r10.2 t = 5 then (match hr r10.2 t 1 with | none => none | some b15 => (if b15 < hz r10.2 ∧ hk r10.2 b15 = 1 then (match f_b_number b15 (a1 + 2) 2 r10.2 with | none => none | some r18 => (if (lg_cmp (Int32.toInt64 ((Int64.toInt32 r10.1) + a3)) r18.1) ≤ 0 then (match f_t_isAligned (a0 + (Int64.toInt32 r10.1)) a4 r18.2 with | none => none | some r22 => (if ¬ r22.1 = 0 then (b_j_liesWell_82 r22.2) else (if t < hz r22.2 ∧ hk r22.2 t = 5 then (match f_j_wrong t 3 (Int32.toInt64 ((a1 + 4) + (2 * a2))) r22.2 with | none => none | some r27 => (if r27.1 = 0 then (some (0, r27.2)) else (b_j_liesWell_82 r27.2))) else none))) else (b_j_liesWell_49 t ((a1 + 4) + (2 * a2)) r18.2))) else none)) else none))) else none)) else none)
set_option maxRecDepth 20000 in
theorem kf_j_liesWell {l : Launch} {G : XG} {d : Nat} {t : Nat} {a0 : Int32} {a1 : Int32} {a2 : Int32} {a3 : Int32} {a4 : Int32} {h : XH} {r : Int32 × XH} (L0 : LY h) (hf : f_j_liesWell t a0 a1 a2 a3 a4 h = some r) : XC l G xEX5_liesWell (d + 1) [.ref t, .int a0, .int a1, .int a2, .int a3, .int a4] h (fun v h2 => (h2 = r.2 ∧ v = some (.int r.1)) ∧ LY r.2) := by
  refine XC.virt xvX5_liesWell (Nat.le_of_ble_eq_true rfl) ?_
  unfold f_j_liesWell at hf
  refine XS.go (s_iloadn rfl rfl rfl) ?_
  refine XS.go (s_iconst (v := 4) rfl rfl) ?_
  refine XS.go (s_iadd rfl) ?_
  refine XS.go (s_iconst (v := 2) rfl rfl) ?_
  refine XS.go (s_iloadn rfl rfl rfl) ?_
  refine XS.go (s_imul rfl) ?_
  refine XS.go (s_iadd rfl) ?_
  refine XS.go (s_istore rfl (Nat.le_of_ble_eq_true rfl)) ?_
  refine XS.go (s_aloadn rfl rfl rfl) ?_
  by_cases qk6 : t < hz h ∧ hk h t = 5
  rotate_left
  · rw [if_neg qk6] at hf; cases hf
  rw [if_pos qk6] at hf
  rcases qr8 : hr h t 1 with _ | b7
  · rw [qr8] at hf; cases hf
  rw [qr8] at hf; dsimp only at hf
  refine XS.go (s_getr rfl xf5_25 qk6.1 qk6.2 (by decide) rfl qr8) ?_
  refine XS.go (s_iload rfl rfl) ?_
  refine XS.go (s_iconst (v := 2) rfl rfl) ?_
  by_cases qk9 : b7 < hz h ∧ hk h b7 = 1
  rotate_left
  · rw [if_neg qk9] at hf; cases hf
  rw [if_pos qk9] at hf
  rcases e11 : f_b_number b7 ((a1 + 4) + (2 * a2)) 2 h with _ | r10
  · rw [e11] at hf; cases hf
  rw [e11] at hf; dsimp only at hf
  refine r_callv rfl xvX1_number xm5_45 (kf_b_number (d := d) L0 e11) qk9.1 qk9.2 (by decide) rfl rfl (by omega) (by decide) (Nat.le_of_ble_eq_true rfl) ?_
  rintro _ _ ⟨⟨rfl, rfl⟩, L12⟩
  refine XS.go (s_l2i rfl) ?_
  refine XS.go (s_istore rfl (Nat.le_of_ble_eq_true rfl)) ?_
  refine XS.go (s_iload rfl rfl) ?_
  refine XS.go (s_iconst (v := 4) rfl rfl) ?_
  refine r_icmp_lt (tgt := 49) rfl rfl (fun qc13 => ?_) (fun qc13 => ?_)
  · rw [if_pos qc13] at hf
    exact XR.forget (L2 := [some (.ref t), none, none, none, none, none, some (.int ((a1 + 4) + (2 * a2))), none]) ⟨rfl, ⟨rfl, trivial⟩⟩ (kb_j_liesWell_49 L12 hf)
  · rw [if_neg qc13] at hf
    refine XS.go (s_iload rfl rfl) ?_
    refine XS.go (s_iload rfl rfl) ?_
    refine XS.go (s_iadd rfl) ?_
    refine XS.go (s_i2l rfl) ?_
    refine XS.go (s_aloadn rfl rfl rfl) ?_
    by_cases qk14 : t < hz r10.2 ∧ hk r10.2 t = 5
    rotate_left
    · rw [if_neg qk14] at hf; cases hf
    rw [if_pos qk14] at hf
    rcases qr16 : hr r10.2 t 1 with _ | b15
    · rw [qr16] at hf; cases hf
    rw [qr16] at hf; dsimp only at hf
    refine XS.go (s_getr rfl xf5_25 qk14.1 qk14.2 (by decide) rfl qr16) ?_
    refine XS.go (s_iloadn rfl rfl rfl) ?_
    refine XS.go (s_iconst (v := 2) rfl rfl) ?_
    refine XS.go (s_iadd rfl) ?_
    refine XS.go (s_iconst (v := 2) rfl rfl) ?_
    by_cases qk17 : b15 < hz r10.2 ∧ hk r10.2 b15 = 1
    rotate_left
    · rw [if_neg qk17] at hf; cases hf
    rw [if_pos qk17] at hf
    rcases e19 : f_b_number b15 (a1 + 2) 2 r10.2 with _ | r18
    · rw [e19] at hf; cases hf
    rw [e19] at hf; dsimp only at hf
    refine r_callv rfl xvX1_number xm5_45 (kf_b_number (d := d) L12 e19) qk17.1 qk17.2 (by decide) rfl rfl (by omega) (by decide) (Nat.le_of_ble_eq_true rfl) ?_
    rintro _ _ ⟨⟨rfl, rfl⟩, L20⟩
    refine XS.go (s_lcmp rfl) ?_
    refine r_if_le (tgt := 59) rfl rfl (fun qc21 => ?_) (fun qc21 => ?_)
    · rw [if_pos qc21] at hf
      refine XS.go (s_iloadn rfl rfl rfl) ?_
      refine XS.go (s_iload rfl rfl) ?_
      refine XS.go (s_iadd rfl) ?_
      refine XS.go (s_iload rfl rfl) ?_
      rcases e23 : f_t_isAligned (a0 + (Int64.toInt32 r10.1)) a4 r18.2 with _ | r22
      · rw [e23] at hf; cases hf
      rw [e23] at hf; dsimp only at hf
      refine r_callsn rfl xsX11_isAligned (List.mem_of_getElem? (i := 11) rfl) (kf_t_isAligned (d := d) L20 e23) rfl rfl (by omega) (by decide) (Nat.le_of_ble_eq_true rfl) ?_
      rintro _ _ ⟨⟨rfl, rfl⟩, L24⟩
      refine r_if_ne (tgt := 82) rfl rfl (fun qc25 => ?_) (fun qc25 => ?_)
      · rw [if_pos qc25] at hf
        exact XR.forget (L2 := [none, none, none, none, none, none, none, none]) trivial (kb_j_liesWell_82 L24 hf)
      · rw [if_neg qc25] at hf
        refine XS.go (s_aloadn rfl rfl rfl) ?_
        refine XS.go (s_iconst (v := 3) rfl rfl) ?_
        refine XS.go (s_iload rfl rfl) ?_
        refine XS.go (s_i2l rfl) ?_
        by_cases qk26 : t < hz r22.2 ∧ hk r22.2 t = 5
        rotate_left
        · rw [if_neg qk26] at hf; cases hf
        rw [if_pos qk26] at hf
        rcases e28 : f_j_wrong t 3 (Int32.toInt64 ((a1 + 4) + (2 * a2))) r22.2 with _ | r27
        · rw [e28] at hf; cases hf
        rw [e28] at hf; dsimp only at hf
        refine r_callv rfl xvX5_wrong xm5_32 (kf_j_wrong (d := d) L24 e28) qk26.1 qk26.2 (by decide) rfl rfl (by omega) (by decide) (Nat.le_of_ble_eq_true rfl) ?_
        rintro _ _ ⟨⟨rfl, rfl⟩, L29⟩
        refine r_if_eq (tgt := 86) rfl rfl (fun qc30 => ?_) (fun qc30 => ?_)
        · rw [if_pos qc30] at hf
          refine XS.go (s_iconst (v := 0) rfl rfl) ?_
          cases hf
          exact XR.retz rfl rfl (by decide) (fun hret => ⟨_, hret, ⟨rfl, rfl⟩, L29⟩)
        · rw [if_neg qc30] at hf
          exact XR.forget (L2 := [none, none, none, none, none, none, none, none]) trivial (kb_j_liesWell_82 L29 hf)
    · rw [if_neg qc21] at hf
      exact XR.forget (L2 := [some (.ref t), none, none, none, none, none, some (.int ((a1 + 4) + (2 * a2))), none]) ⟨rfl, ⟨rfl, trivial⟩⟩ (kb_j_liesWell_49 L20 hf)
def b_j_isList_148 (h : XH) : Option (Int32 × XH) := (some (1, h))
set_option maxRecDepth 20000 in
theorem kb_j_isList_148 {l : Launch} {G : XG} {d : Nat} {h : XH} {r : Int32 × XH} (L0 : LY h) (hf : b_j_isList_148 h = some r) : XR l G xEX5_isList (d + 2) (148, [none, none, none, none, none, none, none, none], [], h) (fun C => ∃ v, xRet xEX5_isList C v ∧ (C.2.2.2 = r.2 ∧ v = some (.int r.1)) ∧ LY r.2) := by
  unfold b_j_isList_148 at hf
  refine XS.go (s_iconst (v := 1) rfl rfl) ?_
  refine XS.go (s_goto (tgt := 153) rfl rfl) ?_
  cases hf
  exact XR.retz rfl rfl (by decide) (fun hret => ⟨_, hret, ⟨rfl, rfl⟩, L0⟩)
def b_j_isList_134 (x0 : Nat) (x2 : Int64) (h : XH) : Option (Int32 × XH) := (if x0 < hz h ∧ hk h x0 = 5 then (match f_j_wrong x0 8 (x2 + 2) h with | none => none | some r2 => (if r2.1 = 0 then (some (0, r2.2)) else (b_j_isList_148 r2.2))) else none)
set_option maxRecDepth 20000 in
theorem kb_j_isList_134 {l : Launch} {G : XG} {d : Nat} {x0 : Nat} {x2 : Int64} {h : XH} {r : Int32 × XH} (L0 : LY h) (hf : b_j_isList_134 x0 x2 h = some r) : XR l G xEX5_isList (d + 2) (134, [some (.ref x0), none, some (.long x2), none, none, none, none, none], [], h) (fun C => ∃ v, xRet xEX5_isList C v ∧ (C.2.2.2 = r.2 ∧ v = some (.int r.1)) ∧ LY r.2) := by
  unfold b_j_isList_134 at hf
  refine XS.go (s_aloadn rfl rfl rfl) ?_
  refine XS.go (s_bipush (v := 8) rfl rfl) ?_
  refine XS.go (s_lloadn rfl rfl rfl) ?_
  refine XS.go (s_ldc2 rfl (lg_3 229 rfl rfl)) ?_
  refine XS.go (s_ladd rfl) ?_
  by_cases qk1 : x0 < hz h ∧ hk h x0 = 5
  rotate_left
  · rw [if_neg qk1] at hf; cases hf
  rw [if_pos qk1] at hf
  rcases e3 : f_j_wrong x0 8 (x2 + 2) h with _ | r2
  · rw [e3] at hf; cases hf
  rw [e3] at hf; dsimp only at hf
  refine r_callv rfl xvX5_wrong xm5_32 (kf_j_wrong (d := d) L0 e3) qk1.1 qk1.2 (by decide) rfl rfl (by omega) (by decide) (Nat.le_of_ble_eq_true rfl) ?_
  rintro _ _ ⟨⟨rfl, rfl⟩, L4⟩
  refine r_if_eq (tgt := 152) rfl rfl (fun qc5 => ?_) (fun qc5 => ?_)
  · rw [if_pos qc5] at hf
    refine XS.go (s_iconst (v := 0) rfl rfl) ?_
    cases hf
    exact XR.retz rfl rfl (by decide) (fun hret => ⟨_, hret, ⟨rfl, rfl⟩, L4⟩)
  · rw [if_neg qc5] at hf
    exact XR.forget (L2 := [none, none, none, none, none, none, none, none]) trivial (kb_j_isList_148 L4 hf)
def b_j_isList_89 (x0 : Nat) (x2 : Int64) (h : XH) : Option (Int32 × XH) := (if x0 < hz h ∧ hk h x0 = 5 then (match f_j_wrong x0 7 x2 h with | none => none | some r7 => (if r7.1 = 0 ∨ r7.1 = 1 then (some (r7.1, r7.2)) else none)) else none)
set_option maxRecDepth 20000 in
theorem kb_j_isList_89 {l : Launch} {G : XG} {d : Nat} {x0 : Nat} {x2 : Int64} {h : XH} {r : Int32 × XH} (L0 : LY h) (hf : b_j_isList_89 x0 x2 h = some r) : XR l G xEX5_isList (d + 2) (89, [some (.ref x0), none, some (.long x2), none, none, none, none, none], [], h) (fun C => ∃ v, xRet xEX5_isList C v ∧ (C.2.2.2 = r.2 ∧ v = some (.int r.1)) ∧ LY r.2) := by
  unfold b_j_isList_89 at hf
  refine XS.go (s_aloadn rfl rfl rfl) ?_
  refine XS.go (s_bipush (v := 7) rfl rfl) ?_
  refine XS.go (s_lloadn rfl rfl rfl) ?_
  by_cases qk6 : x0 < hz h ∧ hk h x0 = 5
  rotate_left
  · rw [if_neg qk6] at hf; cases hf
  rw [if_pos qk6] at hf
  rcases e8 : f_j_wrong x0 7 x2 h with _ | r7
  · rw [e8] at hf; cases hf
  rw [e8] at hf; dsimp only at hf
  refine r_callv rfl xvX5_wrong xm5_32 (kf_j_wrong (d := d) L0 e8) qk6.1 qk6.2 (by decide) rfl rfl (by omega) (by decide) (Nat.le_of_ble_eq_true rfl) ?_
  rintro _ _ ⟨⟨rfl, rfl⟩, L9⟩
  by_cases qk10 : r7.1 = 0 ∨ r7.1 = 1
  rotate_left
  · rw [if_neg qk10] at hf; cases hf
  rw [if_pos qk10] at hf
  cases hf
  exact XR.retz rfl rfl qk10 (fun hret => ⟨_, hret, ⟨rfl, rfl⟩, L9⟩)
def b_j_isList_37 (x0 : Nat) (x1 : Int32) (h : XH) : Option (Int32 × XH) := (if x0 < hz h ∧ hk h x0 = 5 then (match f_j_wrong x0 6 (Int32.toInt64 x1) h with | none => none | some r12 => (if r12.1 = 0 ∨ r12.1 = 1 then (some (r12.1, r12.2)) else none)) else none)
set_option maxRecDepth 20000 in
theorem kb_j_isList_37 {l : Launch} {G : XG} {d : Nat} {x0 : Nat} {x1 : Int32} {h : XH} {r : Int32 × XH} (L0 : LY h) (hf : b_j_isList_37 x0 x1 h = some r) : XR l G xEX5_isList (d + 2) (37, [some (.ref x0), some (.int x1), none, none, none, none, none, none], [], h) (fun C => ∃ v, xRet xEX5_isList C v ∧ (C.2.2.2 = r.2 ∧ v = some (.int r.1)) ∧ LY r.2) := by
  unfold b_j_isList_37 at hf
  refine XS.go (s_aloadn rfl rfl rfl) ?_
  refine XS.go (s_bipush (v := 6) rfl rfl) ?_
  refine XS.go (s_iloadn rfl rfl rfl) ?_
  refine XS.go (s_i2l rfl) ?_
  by_cases qk11 : x0 < hz h ∧ hk h x0 = 5
  rotate_left
  · rw [if_neg qk11] at hf; cases hf
  rw [if_pos qk11] at hf
  rcases e13 : f_j_wrong x0 6 (Int32.toInt64 x1) h with _ | r12
  · rw [e13] at hf; cases hf
  rw [e13] at hf; dsimp only at hf
  refine r_callv rfl xvX5_wrong xm5_32 (kf_j_wrong (d := d) L0 e13) qk11.1 qk11.2 (by decide) rfl rfl (by omega) (by decide) (Nat.le_of_ble_eq_true rfl) ?_
  rintro _ _ ⟨⟨rfl, rfl⟩, L14⟩
  by_cases qk15 : r12.1 = 0 ∨ r12.1 = 1
  rotate_left
  · rw [if_neg qk15] at hf; cases hf
  rw [if_pos qk15] at hf
  cases hf
  exact XR.retz rfl rfl qk15 (fun hret => ⟨_, hret, ⟨rfl, rfl⟩, L14⟩)
def f_j_isList (t : Nat) (a0 : Int32) (h : XH) : Option (Int32 × XH) := (if t < hz h ∧ hk h t = 5 then (match hr h t 1 with | none => none | some b17 => (if b17 < hz h ∧ hk h b17 = 1 then (match f_b_listOf b17 a0 h with | none => none | some r20 => (if (lg_cmp r20.1 0) < 0 then (b_j_isList_37 t a0 r20.2) else (if ¬ (lg_cmp (r20.1 &&& 1) 0) = 0 then (b_j_isList_37 t a0 r20.2) else (if t < hz r20.2 ∧ hk r20.2 t = 5 then (if (lg_cmp (r20.1 + 4) (Int32.toInt64 (hi r20.2 t 2))) ≤ 0 then (match hr r20.2 t 1 with | none => none | some b27 => (if b27 < hz r20.2 ∧ hk r20.2 b27 = 1 then (match f_b_number b27 (Int64.toInt32 r20.1) 2 r20.2 with | none => none | some r30 => (if (lg_cmp r30.1 4) < 0 then (b_j_isList_89 t r20.1 r30.2) else (if ¬ (lg_cmp (r30.1 &&& 1) 0) = 0 then (b_j_isList_89 t r20.1 r30.2) else (if t < hz r30.2 ∧ hk r30.2 t = 5 then (if (lg_cmp (r20.1 + r30.1) (Int32.toInt64 (hi r30.2 t 2))) ≤ 0 then (match hr r30.2 t 1 with | none => none | some b37 => (if b37 < hz r30.2 ∧ hk r30.2 b37 = 1 then (match f_b_number b37 ((Int64.toInt32 r20.1) + 2) 2 r30.2 with | none => none | some r40 => (if (lg_cmp r40.1 4) < 0 then (b_j_isList_134 t r20.1 r40.2) else (if t < hz r40.2 ∧ hk r40.2 t = 5 then (if (lg_cmp ((Int32.toInt64 a0) + r40.1) (Int32.toInt64 (hi r40.2 t 2))) ≤ 0 then (b_j_isList_148 r40.2) else (b_j_isList_134 t r20.1 r40.2)) else none))) else none)) else (b_j_isList_89 t r20.1 r30.2)) else none)))) else none)) else (b_j_isList_37 t a0 r20.2)) else none)))) else none)) else none)
set_option maxRecDepth 20000 in
theorem kf_j_isList {l : Launch} {G : XG} {d : Nat} {t : Nat} {a0 : Int32} {h : XH} {r : Int32 × XH} (L0 : LY h) (hf : f_j_isList t a0 h = some r) : XC l G xEX5_isList (d + 2) [.ref t, .int a0] h (fun v h2 => (h2 = r.2 ∧ v = some (.int r.1)) ∧ LY r.2) := by
  refine XC.virt xvX5_isList (Nat.le_of_ble_eq_true rfl) ?_
  unfold f_j_isList at hf
  refine XS.go (s_aloadn rfl rfl rfl) ?_
  by_cases qk16 : t < hz h ∧ hk h t = 5
  rotate_left
  · rw [if_neg qk16] at hf; cases hf
  rw [if_pos qk16] at hf
  rcases qr18 : hr h t 1 with _ | b17
  · rw [qr18] at hf; cases hf
  rw [qr18] at hf; dsimp only at hf
  refine XS.go (s_getr rfl xf5_25 qk16.1 qk16.2 (by decide) rfl qr18) ?_
  refine XS.go (s_iloadn rfl rfl rfl) ?_
  by_cases qk19 : b17 < hz h ∧ hk h b17 = 1
  rotate_left
  · rw [if_neg qk19] at hf; cases hf
  rw [if_pos qk19] at hf
  rcases e21 : f_b_listOf b17 a0 h with _ | r20
  · rw [e21] at hf; cases hf
  rw [e21] at hf; dsimp only at hf
  refine r_callv rfl xvX1_listOf xm5_76 (kf_b_listOf (d := d) L0 e21) qk19.1 qk19.2 (by decide) rfl rfl (by omega) (by decide) (Nat.le_of_ble_eq_true rfl) ?_
  rintro _ _ ⟨⟨rfl, rfl⟩, L22⟩
  refine XS.go (s_lstoren rfl rfl (Nat.le_of_ble_eq_true rfl)) ?_
  refine XS.go (s_lloadn rfl rfl rfl) ?_
  refine XS.go (s_lconst (v := 0) rfl rfl) ?_
  refine XS.go (s_lcmp rfl) ?_
  refine r_if_lt (tgt := 37) rfl rfl (fun qc23 => ?_) (fun qc23 => ?_)
  · rw [if_pos qc23] at hf
    exact XR.forget (L2 := [some (.ref t), some (.int a0), none, none, none, none, none, none]) ⟨rfl, ⟨rfl, trivial⟩⟩ (kb_j_isList_37 L22 hf)
  · rw [if_neg qc23] at hf
    refine XS.go (s_lloadn rfl rfl rfl) ?_
    refine XS.go (s_lconst (v := 1) rfl rfl) ?_
    refine XS.go (s_land rfl) ?_
    refine XS.go (s_lconst (v := 0) rfl rfl) ?_
    refine XS.go (s_lcmp rfl) ?_
    refine r_if_ne (tgt := 37) rfl rfl (fun qc24 => ?_) (fun qc24 => ?_)
    · rw [if_pos qc24] at hf
      exact XR.forget (L2 := [some (.ref t), some (.int a0), none, none, none, none, none, none]) ⟨rfl, ⟨rfl, trivial⟩⟩ (kb_j_isList_37 L22 hf)
    · rw [if_neg qc24] at hf
      refine XS.go (s_lloadn rfl rfl rfl) ?_
      refine XS.go (s_ldc2 rfl (lg_3 220 rfl rfl)) ?_
      refine XS.go (s_ladd rfl) ?_
      refine XS.go (s_aloadn rfl rfl rfl) ?_
      by_cases qk25 : t < hz r20.2 ∧ hk r20.2 t = 5
      rotate_left
      · rw [if_neg qk25] at hf; cases hf
      rw [if_pos qk25] at hf
      refine XS.go (s_getie rfl xf5_29 qk25.1 qk25.2 (by decide) rfl rfl) ?_
      refine XS.go (s_i2l rfl) ?_
      refine XS.go (s_lcmp rfl) ?_
      refine r_if_le (tgt := 46) rfl rfl (fun qc26 => ?_) (fun qc26 => ?_)
      · rw [if_pos qc26] at hf
        refine XS.go (s_aloadn rfl rfl rfl) ?_
        rcases qr28 : hr r20.2 t 1 with _ | b27
        · rw [qr28] at hf; cases hf
        rw [qr28] at hf; dsimp only at hf
        refine XS.go (s_getr rfl xf5_25 qk25.1 qk25.2 (by decide) rfl qr28) ?_
        refine XS.go (s_lloadn rfl rfl rfl) ?_
        refine XS.go (s_l2i rfl) ?_
        refine XS.go (s_iconst (v := 2) rfl rfl) ?_
        by_cases qk29 : b27 < hz r20.2 ∧ hk r20.2 b27 = 1
        rotate_left
        · rw [if_neg qk29] at hf; cases hf
        rw [if_pos qk29] at hf
        rcases e31 : f_b_number b27 (Int64.toInt32 r20.1) 2 r20.2 with _ | r30
        · rw [e31] at hf; cases hf
        rw [e31] at hf; dsimp only at hf
        refine r_callv rfl xvX1_number xm5_45 (kf_b_number (d := d) L22 e31) qk29.1 qk29.2 (by decide) rfl rfl (by omega) (by decide) (Nat.le_of_ble_eq_true rfl) ?_
        rintro _ _ ⟨⟨rfl, rfl⟩, L32⟩
        refine XS.go (s_lstore rfl (Nat.le_of_ble_eq_true rfl)) ?_
        refine XS.go (s_lload rfl rfl) ?_
        refine XS.go (s_ldc2 rfl (lg_3 220 rfl rfl)) ?_
        refine XS.go (s_lcmp rfl) ?_
        refine r_if_lt (tgt := 89) rfl rfl (fun qc33 => ?_) (fun qc33 => ?_)
        · rw [if_pos qc33] at hf
          exact XR.forget (L2 := [some (.ref t), none, some (.long r20.1), none, none, none, none, none]) ⟨rfl, ⟨rfl, trivial⟩⟩ (kb_j_isList_89 L32 hf)
        · rw [if_neg qc33] at hf
          refine XS.go (s_lload rfl rfl) ?_
          refine XS.go (s_lconst (v := 1) rfl rfl) ?_
          refine XS.go (s_land rfl) ?_
          refine XS.go (s_lconst (v := 0) rfl rfl) ?_
          refine XS.go (s_lcmp rfl) ?_
          refine r_if_ne (tgt := 89) rfl rfl (fun qc34 => ?_) (fun qc34 => ?_)
          · rw [if_pos qc34] at hf
            exact XR.forget (L2 := [some (.ref t), none, some (.long r20.1), none, none, none, none, none]) ⟨rfl, ⟨rfl, trivial⟩⟩ (kb_j_isList_89 L32 hf)
          · rw [if_neg qc34] at hf
            refine XS.go (s_lloadn rfl rfl rfl) ?_
            refine XS.go (s_lload rfl rfl) ?_
            refine XS.go (s_ladd rfl) ?_
            refine XS.go (s_aloadn rfl rfl rfl) ?_
            by_cases qk35 : t < hz r30.2 ∧ hk r30.2 t = 5
            rotate_left
            · rw [if_neg qk35] at hf; cases hf
            rw [if_pos qk35] at hf
            refine XS.go (s_getie rfl xf5_29 qk35.1 qk35.2 (by decide) rfl rfl) ?_
            refine XS.go (s_i2l rfl) ?_
            refine XS.go (s_lcmp rfl) ?_
            refine r_if_le (tgt := 97) rfl rfl (fun qc36 => ?_) (fun qc36 => ?_)
            · rw [if_pos qc36] at hf
              refine XS.go (s_aloadn rfl rfl rfl) ?_
              rcases qr38 : hr r30.2 t 1 with _ | b37
              · rw [qr38] at hf; cases hf
              rw [qr38] at hf; dsimp only at hf
              refine XS.go (s_getr rfl xf5_25 qk35.1 qk35.2 (by decide) rfl qr38) ?_
              refine XS.go (s_lloadn rfl rfl rfl) ?_
              refine XS.go (s_l2i rfl) ?_
              refine XS.go (s_iconst (v := 2) rfl rfl) ?_
              refine XS.go (s_iadd rfl) ?_
              refine XS.go (s_iconst (v := 2) rfl rfl) ?_
              by_cases qk39 : b37 < hz r30.2 ∧ hk r30.2 b37 = 1
              rotate_left
              · rw [if_neg qk39] at hf; cases hf
              rw [if_pos qk39] at hf
              rcases e41 : f_b_number b37 ((Int64.toInt32 r20.1) + 2) 2 r30.2 with _ | r40
              · rw [e41] at hf; cases hf
              rw [e41] at hf; dsimp only at hf
              refine r_callv rfl xvX1_number xm5_45 (kf_b_number (d := d) L32 e41) qk39.1 qk39.2 (by decide) rfl rfl (by omega) (by decide) (Nat.le_of_ble_eq_true rfl) ?_
              rintro _ _ ⟨⟨rfl, rfl⟩, L42⟩
              refine XS.go (s_lstore rfl (Nat.le_of_ble_eq_true rfl)) ?_
              refine XS.go (s_lload rfl rfl) ?_
              refine XS.go (s_ldc2 rfl (lg_3 220 rfl rfl)) ?_
              refine XS.go (s_lcmp rfl) ?_
              refine r_if_lt (tgt := 134) rfl rfl (fun qc43 => ?_) (fun qc43 => ?_)
              · rw [if_pos qc43] at hf
                exact XR.forget (L2 := [some (.ref t), none, some (.long r20.1), none, none, none, none, none]) ⟨rfl, ⟨rfl, trivial⟩⟩ (kb_j_isList_134 L42 hf)
              · rw [if_neg qc43] at hf
                refine XS.go (s_iloadn rfl rfl rfl) ?_
                refine XS.go (s_i2l rfl) ?_
                refine XS.go (s_lload rfl rfl) ?_
                refine XS.go (s_ladd rfl) ?_
                refine XS.go (s_aloadn rfl rfl rfl) ?_
                by_cases qk44 : t < hz r40.2 ∧ hk r40.2 t = 5
                rotate_left
                · rw [if_neg qk44] at hf; cases hf
                rw [if_pos qk44] at hf
                refine XS.go (s_getie rfl xf5_29 qk44.1 qk44.2 (by decide) rfl rfl) ?_
                refine XS.go (s_i2l rfl) ?_
                refine XS.go (s_lcmp rfl) ?_
                refine r_if_le (tgt := 148) rfl rfl (fun qc45 => ?_) (fun qc45 => ?_)
                · rw [if_pos qc45] at hf
                  exact XR.forget (L2 := [none, none, none, none, none, none, none, none]) trivial (kb_j_isList_148 L42 hf)
                · rw [if_neg qc45] at hf
                  exact XR.forget (L2 := [some (.ref t), none, some (.long r20.1), none, none, none, none, none]) ⟨rfl, ⟨rfl, trivial⟩⟩ (kb_j_isList_134 L42 hf)
            · rw [if_neg qc36] at hf
              exact XR.forget (L2 := [some (.ref t), none, some (.long r20.1), none, none, none, none, none]) ⟨rfl, ⟨rfl, trivial⟩⟩ (kb_j_isList_89 L32 hf)
      · rw [if_neg qc26] at hf
        exact XR.forget (L2 := [some (.ref t), some (.int a0), none, none, none, none, none, none]) ⟨rfl, ⟨rfl, trivial⟩⟩ (kb_j_isList_37 L22 hf)
def b_j_isContent_55 (KT : Nat → Int32 → Int32 → Int32 → XH → Option (Int32 × XH)) (h : XH) : Option (Int32 × XH) := (some (1, h))
set_option maxRecDepth 20000 in
theorem kb_j_isContent_55 {l : Launch} {G : XG} {d : Nat} {KT : Nat → Int32 → Int32 → Int32 → XH → Option (Int32 × XH)} {h : XH} {r : Int32 × XH} (hKT : ∀ (t : Nat) (a0 : Int32) (a1 : Int32) (a2 : Int32) (h : XH) (r : Int32 × XH), LY h → KT t a0 a1 a2 h = some r → XC l G xEX5_isTable d [.ref t, .int a0, .int a1, .int a2] h (fun v h2 => (h2 = r.2 ∧ v = some (.int r.1)) ∧ LY r.2)) (L0 : LY h) (hf : b_j_isContent_55 KT h = some r) : XR l G xEX5_isContent (d + 2) (55, [none, none, none, none, none], [], h) (fun C => ∃ v, xRet xEX5_isContent C v ∧ (C.2.2.2 = r.2 ∧ v = some (.int r.1)) ∧ LY r.2) := by
  unfold b_j_isContent_55 at hf
  refine XS.go (s_iconst (v := 1) rfl rfl) ?_
  refine XS.go (s_goto (tgt := 60) rfl rfl) ?_
  cases hf
  exact XR.retz rfl rfl (by decide) (fun hret => ⟨_, hret, ⟨rfl, rfl⟩, L0⟩)
def f_j_isContent (KT : Nat → Int32 → Int32 → Int32 → XH → Option (Int32 × XH)) (t : Nat) (a0 : Int32) (a1 : Int32) (a2 : Int32) (a3 : Int32) (h : XH) : Option (Int32 × XH) := (if a1 = 0 then (if ¬ a2 = 0 then (b_j_isContent_55 KT h) else (if t < hz h ∧ hk h t = 5 then (match hr h t 1 with | none => none | some b4 => (if b4 < hz h ∧ hk h b4 = 1 then (match f_b_octet b4 a0 h with | none => none | some r7 => (if r7.1 ≤ 1 then (b_j_isContent_55 KT r7.2) else (if t < hz r7.2 ∧ hk r7.2 t = 5 then (match f_j_wrong t 11 (Int32.toInt64 a0) r7.2 with | none => none | some r12 => (if r12.1 = 0 then (some (0, r12.2)) else (b_j_isContent_55 KT r12.2))) else none))) else none)) else none)) else (if a1 = 1 then (if t < hz h ∧ hk h t = 5 then (match f_j_isReference t a0 h with | none => none | some r17 => (if r17.1 = 0 then (some (0, r17.2)) else (if t < hz r17.2 ∧ hk r17.2 t = 5 then (match hr r17.2 t 1 with | none => none | some b22 => (if b22 < hz r17.2 ∧ hk r17.2 b22 = 1 then (match f_b_behind b22 a0 r17.2 with | none => none | some r25 => (if t < hz r25.2 ∧ hk r25.2 t = 5 then (match f_j_isText t r25.1 r25.2 with | none => none | some r29 => (if r29.1 = 0 then (some (0, r29.2)) else (some (1, r29.2)))) else none)) else none)) else none))) else none) else (if a1 = 2 then (if t < hz h ∧ hk h t = 5 then (match hr h t 0 with | none => none | some b34 => (if b34 < hz h ∧ hk h b34 = 9 then (match hr h b34 0 with | none => none | some b37 => (if b37 < hz h ∧ hk h b37 = 4 then (match f_g_at b37 a2 h with | none => none | some r40 => (if t < hz r40.2 ∧ hk r40.2 t = 5 then (match r40.1 with | none => none | some b44 => (match f_j_isStruct t a0 b44 r40.2 with | none => none | some r46 => (if r46.1 = 0 ∨ r46.1 = 1 then (some (r46.1, r46.2)) else none))) else none)) else none)) else none)) else none) else (if t < hz h ∧ hk h t = 5 then (match KT t a0 a2 (a3 + 1) h with | none => none | some r51 => (if r51.1 = 0 ∨ r51.1 = 1 then (some (r51.1, r51.2)) else none)) else none))))
set_option maxRecDepth 20000 in
theorem kf_j_isContent {l : Launch} {G : XG} {d : Nat} {KT : Nat → Int32 → Int32 → Int32 → XH → Option (Int32 × XH)} {t : Nat} {a0 : Int32} {a1 : Int32} {a2 : Int32} {a3 : Int32} {h : XH} {r : Int32 × XH} (hKT : ∀ (t : Nat) (a0 : Int32) (a1 : Int32) (a2 : Int32) (h : XH) (r : Int32 × XH), LY h → KT t a0 a1 a2 h = some r → XC l G xEX5_isTable d [.ref t, .int a0, .int a1, .int a2] h (fun v h2 => (h2 = r.2 ∧ v = some (.int r.1)) ∧ LY r.2)) (L0 : LY h) (hf : f_j_isContent KT t a0 a1 a2 a3 h = some r) : XC l G xEX5_isContent (d + 2) [.ref t, .int a0, .int a1, .int a2, .int a3] h (fun v h2 => (h2 = r.2 ∧ v = some (.int r.1)) ∧ LY r.2) := by
  refine XC.virt xvX5_isContent (Nat.le_of_ble_eq_true rfl) ?_
  unfold f_j_isContent at hf
  refine XS.go (s_iloadn rfl rfl rfl) ?_
  by_cases qs1_0 : a1 = 0
  · rw [if_pos qs1_0] at hf
    refine XS.go (s_tswI (tgt := 28) rfl (by rw [qs1_0]; decide) (by rw [qs1_0]; decide) (by rw [qs1_0]; rfl) rfl) ?_
    refine XS.go (s_iloadn rfl rfl rfl) ?_
    refine r_if_ne (tgt := 55) rfl rfl (fun qc2 => ?_) (fun qc2 => ?_)
    · rw [if_pos qc2] at hf
      exact XR.forget (L2 := [none, none, none, none, none]) trivial (kb_j_isContent_55 hKT L0 hf)
    · rw [if_neg qc2] at hf
      refine XS.go (s_aloadn rfl rfl rfl) ?_
      by_cases qk3 : t < hz h ∧ hk h t = 5
      rotate_left
      · rw [if_neg qk3] at hf; cases hf
      rw [if_pos qk3] at hf
      rcases qr5 : hr h t 1 with _ | b4
      · rw [qr5] at hf; cases hf
      rw [qr5] at hf; dsimp only at hf
      refine XS.go (s_getr rfl xf5_25 qk3.1 qk3.2 (by decide) rfl qr5) ?_
      refine XS.go (s_iloadn rfl rfl rfl) ?_
      by_cases qk6 : b4 < hz h ∧ hk h b4 = 1
      rotate_left
      · rw [if_neg qk6] at hf; cases hf
      rw [if_pos qk6] at hf
      rcases e8 : f_b_octet b4 a0 h with _ | r7
      · rw [e8] at hf; cases hf
      rw [e8] at hf; dsimp only at hf
      refine r_callv rfl xvX1_octet xm5_143 (kf_b_octet (d := d) L0 e8) qk6.1 qk6.2 (by decide) rfl rfl (by omega) (by decide) (Nat.le_of_ble_eq_true rfl) ?_
      rintro _ _ ⟨⟨rfl, rfl⟩, L9⟩
      refine XS.go (s_iconst (v := 1) rfl rfl) ?_
      refine r_icmp_le (tgt := 55) rfl rfl (fun qc10 => ?_) (fun qc10 => ?_)
      · rw [if_pos qc10] at hf
        exact XR.forget (L2 := [none, none, none, none, none]) trivial (kb_j_isContent_55 hKT L9 hf)
      · rw [if_neg qc10] at hf
        refine XS.go (s_aloadn rfl rfl rfl) ?_
        refine XS.go (s_bipush (v := 11) rfl rfl) ?_
        refine XS.go (s_iloadn rfl rfl rfl) ?_
        refine XS.go (s_i2l rfl) ?_
        by_cases qk11 : t < hz r7.2 ∧ hk r7.2 t = 5
        rotate_left
        · rw [if_neg qk11] at hf; cases hf
        rw [if_pos qk11] at hf
        rcases e13 : f_j_wrong t 11 (Int32.toInt64 a0) r7.2 with _ | r12
        · rw [e13] at hf; cases hf
        rw [e13] at hf; dsimp only at hf
        refine r_callv rfl xvX5_wrong xm5_32 (kf_j_wrong (d := d) L9 e13) qk11.1 qk11.2 (by decide) rfl rfl (by omega) (by decide) (Nat.le_of_ble_eq_true rfl) ?_
        rintro _ _ ⟨⟨rfl, rfl⟩, L14⟩
        refine r_if_eq (tgt := 59) rfl rfl (fun qc15 => ?_) (fun qc15 => ?_)
        · rw [if_pos qc15] at hf
          refine XS.go (s_iconst (v := 0) rfl rfl) ?_
          cases hf
          exact XR.retz rfl rfl (by decide) (fun hret => ⟨_, hret, ⟨rfl, rfl⟩, L14⟩)
        · rw [if_neg qc15] at hf
          exact XR.forget (L2 := [none, none, none, none, none]) trivial (kb_j_isContent_55 hKT L14 hf)
  rw [if_neg qs1_0] at hf
  by_cases qs1_1 : a1 = 1
  · rw [if_pos qs1_1] at hf
    refine XS.go (s_tswI (tgt := 61) rfl (by rw [qs1_1]; decide) (by rw [qs1_1]; decide) (by rw [qs1_1]; rfl) rfl) ?_
    refine XS.go (s_aloadn rfl rfl rfl) ?_
    refine XS.go (s_iloadn rfl rfl rfl) ?_
    by_cases qk16 : t < hz h ∧ hk h t = 5
    rotate_left
    · rw [if_neg qk16] at hf; cases hf
    rw [if_pos qk16] at hf
    rcases e18 : f_j_isReference t a0 h with _ | r17
    · rw [e18] at hf; cases hf
    rw [e18] at hf; dsimp only at hf
    refine r_callv rfl xvX5_isReference xm5_55 (kf_j_isReference (d := d) L0 e18) qk16.1 qk16.2 (by decide) rfl rfl (by omega) (by decide) (Nat.le_of_ble_eq_true rfl) ?_
    rintro _ _ ⟨⟨rfl, rfl⟩, L19⟩
    refine r_if_eq (tgt := 88) rfl rfl (fun qc20 => ?_) (fun qc20 => ?_)
    · rw [if_pos qc20] at hf
      refine XS.go (s_iconst (v := 0) rfl rfl) ?_
      cases hf
      exact XR.retz rfl rfl (by decide) (fun hret => ⟨_, hret, ⟨rfl, rfl⟩, L19⟩)
    · rw [if_neg qc20] at hf
      refine XS.go (s_aloadn rfl rfl rfl) ?_
      refine XS.go (s_aloadn rfl rfl rfl) ?_
      by_cases qk21 : t < hz r17.2 ∧ hk r17.2 t = 5
      rotate_left
      · rw [if_neg qk21] at hf; cases hf
      rw [if_pos qk21] at hf
      rcases qr23 : hr r17.2 t 1 with _ | b22
      · rw [qr23] at hf; cases hf
      rw [qr23] at hf; dsimp only at hf
      refine XS.go (s_getr rfl xf5_25 qk21.1 qk21.2 (by decide) rfl qr23) ?_
      refine XS.go (s_iloadn rfl rfl rfl) ?_
      by_cases qk24 : b22 < hz r17.2 ∧ hk r17.2 b22 = 1
      rotate_left
      · rw [if_neg qk24] at hf; cases hf
      rw [if_pos qk24] at hf
      rcases e26 : f_b_behind b22 a0 r17.2 with _ | r25
      · rw [e26] at hf; cases hf
      rw [e26] at hf; dsimp only at hf
      refine r_callv rfl xvX1_behind xm5_59 (kf_b_behind (d := d) L19 e26) qk24.1 qk24.2 (by decide) rfl rfl (by omega) (by decide) (Nat.le_of_ble_eq_true rfl) ?_
      rintro _ _ ⟨⟨rfl, rfl⟩, L27⟩
      by_cases qk28 : t < hz r25.2 ∧ hk r25.2 t = 5
      rotate_left
      · rw [if_neg qk28] at hf; cases hf
      rw [if_pos qk28] at hf
      rcases e30 : f_j_isText t r25.1 r25.2 with _ | r29
      · rw [e30] at hf; cases hf
      rw [e30] at hf; dsimp only at hf
      refine r_callv rfl xvX5_isText xm5_153 (kf_j_isText (d := d) L27 e30) qk28.1 qk28.2 (by decide) rfl rfl (by omega) (by decide) (Nat.le_of_ble_eq_true rfl) ?_
      rintro _ _ ⟨⟨rfl, rfl⟩, L31⟩
      refine r_if_eq (tgt := 88) rfl rfl (fun qc32 => ?_) (fun qc32 => ?_)
      · rw [if_pos qc32] at hf
        refine XS.go (s_iconst (v := 0) rfl rfl) ?_
        cases hf
        exact XR.retz rfl rfl (by decide) (fun hret => ⟨_, hret, ⟨rfl, rfl⟩, L31⟩)
      · rw [if_neg qc32] at hf
        refine XS.go (s_iconst (v := 1) rfl rfl) ?_
        refine XS.go (s_goto (tgt := 89) rfl rfl) ?_
        cases hf
        exact XR.retz rfl rfl (by decide) (fun hret => ⟨_, hret, ⟨rfl, rfl⟩, L31⟩)
  rw [if_neg qs1_1] at hf
  by_cases qs1_2 : a1 = 2
  · rw [if_pos qs1_2] at hf
    refine XS.go (s_tswI (tgt := 90) rfl (by rw [qs1_2]; decide) (by rw [qs1_2]; decide) (by rw [qs1_2]; rfl) rfl) ?_
    refine XS.go (s_aloadn rfl rfl rfl) ?_
    refine XS.go (s_iloadn rfl rfl rfl) ?_
    refine XS.go (s_aloadn rfl rfl rfl) ?_
    by_cases qk33 : t < hz h ∧ hk h t = 5
    rotate_left
    · rw [if_neg qk33] at hf; cases hf
    rw [if_pos qk33] at hf
    rcases qr35 : hr h t 0 with _ | b34
    · rw [qr35] at hf; cases hf
    rw [qr35] at hf; dsimp only at hf
    refine XS.go (s_getr rfl xf5_21 qk33.1 qk33.2 (by decide) rfl qr35) ?_
    by_cases qk36 : b34 < hz h ∧ hk h b34 = 9
    rotate_left
    · rw [if_neg qk36] at hf; cases hf
    rw [if_pos qk36] at hf
    rcases qr38 : hr h b34 0 with _ | b37
    · rw [qr38] at hf; cases hf
    rw [qr38] at hf; dsimp only at hf
    refine XS.go (s_getr rfl xf5_156 qk36.1 qk36.2 (by decide) rfl qr38) ?_
    refine XS.go (s_iloadn rfl rfl rfl) ?_
    by_cases qk39 : b37 < hz h ∧ hk h b37 = 4
    rotate_left
    · rw [if_neg qk39] at hf; cases hf
    rw [if_pos qk39] at hf
    rcases e41 : f_g_at b37 a2 h with _ | r40
    · rw [e41] at hf; cases hf
    rw [e41] at hf; dsimp only at hf
    refine r_callv rfl xvX4_at xm5_67 (kf_g_at (d := d) L0 e41) qk39.1 qk39.2 (by decide) rfl rfl (by omega) (by decide) (Nat.le_of_ble_eq_true rfl) ?_
    rintro _ _ ⟨⟨rfl, rfl⟩, L42⟩
    by_cases qk43 : t < hz r40.2 ∧ hk r40.2 t = 5
    rotate_left
    · rw [if_neg qk43] at hf; cases hf
    rw [if_pos qk43] at hf
    rcases qo45 : r40.1 with _ | b44
    · rw [qo45] at hf; cases hf
    rw [qo45] at hf; dsimp only at hf; try rw [qo45]
    rcases e47 : f_j_isStruct t a0 b44 r40.2 with _ | r46
    · rw [e47] at hf; cases hf
    rw [e47] at hf; dsimp only at hf
    refine r_callv rfl xvX5_isStruct xm5_159 (kf_j_isStruct (d := d) L42 e47) qk43.1 qk43.2 (by decide) rfl rfl (by omega) (by decide) (Nat.le_of_ble_eq_true rfl) ?_
    rintro _ _ ⟨⟨rfl, rfl⟩, L48⟩
    by_cases qk49 : r46.1 = 0 ∨ r46.1 = 1
    rotate_left
    · rw [if_neg qk49] at hf; cases hf
    rw [if_pos qk49] at hf
    cases hf
    exact XR.retz rfl rfl qk49 (fun hret => ⟨_, hret, ⟨rfl, rfl⟩, L48⟩)
  rw [if_neg qs1_2] at hf
  have qs1_o : (a1).toInt < 0 ∨ 2 < (a1).toInt := by
    refine tsw_out 0 2 (by decide) ?_
    intro k h1 h2
    have z : k = 0 ∨ k = 1 ∨ k = 2 := by omega
    rcases z with rfl | rfl | rfl
    · exact qs1_0
    · exact qs1_1
    · exact qs1_2
  refine XS.go (s_tswO (tgt := 107) rfl qs1_o rfl) ?_
  refine XS.go (s_aloadn rfl rfl rfl) ?_
  refine XS.go (s_iloadn rfl rfl rfl) ?_
  refine XS.go (s_iloadn rfl rfl rfl) ?_
  refine XS.go (s_iload rfl rfl) ?_
  refine XS.go (s_iconst (v := 1) rfl rfl) ?_
  refine XS.go (s_iadd rfl) ?_
  by_cases qk50 : t < hz h ∧ hk h t = 5
  rotate_left
  · rw [if_neg qk50] at hf; cases hf
  rw [if_pos qk50] at hf
  rcases e52 : KT t a0 a2 (a3 + 1) h with _ | r51
  · rw [e52] at hf; cases hf
  rw [e52] at hf; dsimp only at hf
  refine r_callv rfl xvX5_isTable xm5_41 (hKT t a0 a2 (a3 + 1) h r51 L0 e52) qk50.1 qk50.2 (by decide) rfl rfl (by omega) (by decide) (Nat.le_of_ble_eq_true rfl) ?_
  rintro _ _ ⟨⟨rfl, rfl⟩, L53⟩
  by_cases qk54 : r51.1 = 0 ∨ r51.1 = 1
  rotate_left
  · rw [if_neg qk54] at hf; cases hf
  rw [if_pos qk54] at hf
  cases hf
  exact XR.retz rfl rfl qk54 (fun hret => ⟨_, hret, ⟨rfl, rfl⟩, L53⟩)
def f_j_isMember (KT : Nat → Int32 → Int32 → Int32 → XH → Option (Int32 × XH)) (t : Nat) (a0 : Int32) (a1 : Int32) (a2 : Int32) (a3 : Int32) (a4 : Int32) (h : XH) : Option (Int32 × XH) := (if t < hz h ∧ hk h t = 5 then (match hr h t 1 with | none => none | some b2 => (if b2 < hz h ∧ hk h b2 = 1 then (match f_b_slotNumber b2 a1 a2 h with | none => none | some r5 => (if ¬ r5.1 = 0 then (if t < hz r5.2 ∧ hk r5.2 t = 5 then (match f_j_liesWell t a0 a1 a2 4 4 r5.2 with | none => none | some r10 => (if r10.1 = 0 then (some (0, r10.2)) else (if t < hz r10.2 ∧ hk r10.2 t = 5 then (match KT t (a0 + r5.1) a3 (a4 + 1) r10.2 with | none => none | some r15 => (if r15.1 = 0 then (some (0, r15.2)) else (some (1, r15.2)))) else none))) else none) else (if t < hz r5.2 ∧ hk r5.2 t = 5 then (match f_j_wrong t 9 (Int32.toInt64 a0) r5.2 with | none => none | some r20 => (if r20.1 = 0 ∨ r20.1 = 1 then (some (r20.1, r20.2)) else none)) else none))) else none)) else none)
set_option maxRecDepth 20000 in
theorem kf_j_isMember {l : Launch} {G : XG} {d : Nat} {KT : Nat → Int32 → Int32 → Int32 → XH → Option (Int32 × XH)} {t : Nat} {a0 : Int32} {a1 : Int32} {a2 : Int32} {a3 : Int32} {a4 : Int32} {h : XH} {r : Int32 × XH} (hKT : ∀ (t : Nat) (a0 : Int32) (a1 : Int32) (a2 : Int32) (h : XH) (r : Int32 × XH), LY h → KT t a0 a1 a2 h = some r → XC l G xEX5_isTable d [.ref t, .int a0, .int a1, .int a2] h (fun v h2 => (h2 = r.2 ∧ v = some (.int r.1)) ∧ LY r.2)) (L0 : LY h) (hf : f_j_isMember KT t a0 a1 a2 a3 a4 h = some r) : XC l G xEX5_isMember (d + 2) [.ref t, .int a0, .int a1, .int a2, .int a3, .int a4] h (fun v h2 => (h2 = r.2 ∧ v = some (.int r.1)) ∧ LY r.2) := by
  refine XC.virt xvX5_isMember (Nat.le_of_ble_eq_true rfl) ?_
  unfold f_j_isMember at hf
  refine XS.go (s_aloadn rfl rfl rfl) ?_
  by_cases qk1 : t < hz h ∧ hk h t = 5
  rotate_left
  · rw [if_neg qk1] at hf; cases hf
  rw [if_pos qk1] at hf
  rcases qr3 : hr h t 1 with _ | b2
  · rw [qr3] at hf; cases hf
  rw [qr3] at hf; dsimp only at hf
  refine XS.go (s_getr rfl xf5_25 qk1.1 qk1.2 (by decide) rfl qr3) ?_
  refine XS.go (s_iloadn rfl rfl rfl) ?_
  refine XS.go (s_iloadn rfl rfl rfl) ?_
  by_cases qk4 : b2 < hz h ∧ hk h b2 = 1
  rotate_left
  · rw [if_neg qk4] at hf; cases hf
  rw [if_pos qk4] at hf
  rcases e6 : f_b_slotNumber b2 a1 a2 h with _ | r5
  · rw [e6] at hf; cases hf
  rw [e6] at hf; dsimp only at hf
  refine r_callv rfl xvX1_slotNumber xm5_106 (kf_b_slotNumber (d := d) L0 e6) qk4.1 qk4.2 (by decide) rfl rfl (by omega) (by decide) (Nat.le_of_ble_eq_true rfl) ?_
  rintro _ _ ⟨⟨rfl, rfl⟩, L7⟩
  refine XS.go (s_istore rfl (Nat.le_of_ble_eq_true rfl)) ?_
  refine XS.go (s_iload rfl rfl) ?_
  refine r_if_ne (tgt := 25) rfl rfl (fun qc8 => ?_) (fun qc8 => ?_)
  · rw [if_pos qc8] at hf
    refine XS.go (s_aloadn rfl rfl rfl) ?_
    refine XS.go (s_iloadn rfl rfl rfl) ?_
    refine XS.go (s_iloadn rfl rfl rfl) ?_
    refine XS.go (s_iloadn rfl rfl rfl) ?_
    refine XS.go (s_iconst (v := 4) rfl rfl) ?_
    refine XS.go (s_iconst (v := 4) rfl rfl) ?_
    by_cases qk9 : t < hz r5.2 ∧ hk r5.2 t = 5
    rotate_left
    · rw [if_neg qk9] at hf; cases hf
    rw [if_pos qk9] at hf
    rcases e11 : f_j_liesWell t a0 a1 a2 4 4 r5.2 with _ | r10
    · rw [e11] at hf; cases hf
    rw [e11] at hf; dsimp only at hf
    refine r_callv rfl xvX5_liesWell xm5_122 (kf_j_liesWell (d := d) L7 e11) qk9.1 qk9.2 (by decide) rfl rfl (by omega) (by decide) (Nat.le_of_ble_eq_true rfl) ?_
    rintro _ _ ⟨⟨rfl, rfl⟩, L12⟩
    refine r_if_eq (tgt := 58) rfl rfl (fun qc13 => ?_) (fun qc13 => ?_)
    · rw [if_pos qc13] at hf
      refine XS.go (s_iconst (v := 0) rfl rfl) ?_
      cases hf
      exact XR.retz rfl rfl (by decide) (fun hret => ⟨_, hret, ⟨rfl, rfl⟩, L12⟩)
    · rw [if_neg qc13] at hf
      refine XS.go (s_aloadn rfl rfl rfl) ?_
      refine XS.go (s_iloadn rfl rfl rfl) ?_
      refine XS.go (s_iload rfl rfl) ?_
      refine XS.go (s_iadd rfl) ?_
      refine XS.go (s_iload rfl rfl) ?_
      refine XS.go (s_iload rfl rfl) ?_
      refine XS.go (s_iconst (v := 1) rfl rfl) ?_
      refine XS.go (s_iadd rfl) ?_
      by_cases qk14 : t < hz r10.2 ∧ hk r10.2 t = 5
      rotate_left
      · rw [if_neg qk14] at hf; cases hf
      rw [if_pos qk14] at hf
      rcases e16 : KT t (a0 + r5.1) a3 (a4 + 1) r10.2 with _ | r15
      · rw [e16] at hf; cases hf
      rw [e16] at hf; dsimp only at hf
      refine r_callv rfl xvX5_isTable xm5_41 (hKT t (a0 + r5.1) a3 (a4 + 1) r10.2 r15 L12 e16) qk14.1 qk14.2 (by decide) rfl rfl (by omega) (by decide) (Nat.le_of_ble_eq_true rfl) ?_
      rintro _ _ ⟨⟨rfl, rfl⟩, L17⟩
      refine r_if_eq (tgt := 58) rfl rfl (fun qc18 => ?_) (fun qc18 => ?_)
      · rw [if_pos qc18] at hf
        refine XS.go (s_iconst (v := 0) rfl rfl) ?_
        cases hf
        exact XR.retz rfl rfl (by decide) (fun hret => ⟨_, hret, ⟨rfl, rfl⟩, L17⟩)
      · rw [if_neg qc18] at hf
        refine XS.go (s_iconst (v := 1) rfl rfl) ?_
        refine XS.go (s_goto (tgt := 59) rfl rfl) ?_
        cases hf
        exact XR.retz rfl rfl (by decide) (fun hret => ⟨_, hret, ⟨rfl, rfl⟩, L17⟩)
  · rw [if_neg qc8] at hf
    refine XS.go (s_aloadn rfl rfl rfl) ?_
    refine XS.go (s_bipush (v := 9) rfl rfl) ?_
    refine XS.go (s_iloadn rfl rfl rfl) ?_
    refine XS.go (s_i2l rfl) ?_
    by_cases qk19 : t < hz r5.2 ∧ hk r5.2 t = 5
    rotate_left
    · rw [if_neg qk19] at hf; cases hf
    rw [if_pos qk19] at hf
    rcases e21 : f_j_wrong t 9 (Int32.toInt64 a0) r5.2 with _ | r20
    · rw [e21] at hf; cases hf
    rw [e21] at hf; dsimp only at hf
    refine r_callv rfl xvX5_wrong xm5_32 (kf_j_wrong (d := d) L7 e21) qk19.1 qk19.2 (by decide) rfl rfl (by omega) (by decide) (Nat.le_of_ble_eq_true rfl) ?_
    rintro _ _ ⟨⟨rfl, rfl⟩, L22⟩
    by_cases qk23 : r20.1 = 0 ∨ r20.1 = 1
    rotate_left
    · rw [if_neg qk23] at hf; cases hf
    rw [if_pos qk23] at hf
    cases hf
    exact XR.retz rfl rfl qk23 (fun hret => ⟨_, hret, ⟨rfl, rfl⟩, L22⟩)
def b_j_isUnion_79 (KT : Nat → Int32 → Int32 → Int32 → XH → Option (Int32 × XH)) (x0 : Nat) (x1 : Int32) (x2 : Int32) (x3 : Nat) (x4 : Int32) (x5 : Option Nat) (x6 : Int32) (y0 : Int32) (h : XH) : Option (Int32 × XH) := (match x5 with | none => none | some b1 => (if b1 < hz h ∧ hk h b1 = 2 then (if y0 ≤ (hi h b1 3) then (match f_d_fieldAt b1 (y0 - 1) h with | none => none | some r5 => (match r5.1 with | none => (if x0 < hz r5.2 ∧ hk r5.2 x0 = 5 then (match f_j_isEmptyUnion x0 x1 x2 x3 r5.2 with | none => none | some r11 => (if r11.1 = 0 ∨ r11.1 = 1 then (some (r11.1, r11.2)) else none)) else none) | some b9 => (if x3 < hz r5.2 ∧ hk r5.2 x3 = 3 then (if b9 < hz r5.2 ∧ hk r5.2 b9 = 3 then (if x0 < hz r5.2 ∧ hk r5.2 x0 = 5 then (match f_j_isMember KT x0 x1 x2 ((hi r5.2 x3 6) + 1) (hi r5.2 b9 4) x4 r5.2 with | none => none | some r18 => (if r18.1 = 0 ∨ r18.1 = 1 then (some (r18.1, r18.2)) else none)) else none) else none) else none))) else (if x0 < hz h ∧ hk h x0 = 5 then (match f_j_wrong x0 12 (Int32.toInt64 (x1 + x6)) h with | none => none | some r23 => (if r23.1 = 0 ∨ r23.1 = 1 then (some (r23.1, r23.2)) else none)) else none)) else none))
set_option maxRecDepth 20000 in
theorem kb_j_isUnion_79 {l : Launch} {G : XG} {d : Nat} {KT : Nat → Int32 → Int32 → Int32 → XH → Option (Int32 × XH)} {x0 : Nat} {x1 : Int32} {x2 : Int32} {x3 : Nat} {x4 : Int32} {x5 : Option Nat} {x6 : Int32} {y0 : Int32} {h : XH} {r : Int32 × XH} (hKT : ∀ (t : Nat) (a0 : Int32) (a1 : Int32) (a2 : Int32) (h : XH) (r : Int32 × XH), LY h → KT t a0 a1 a2 h = some r → XC l G xEX5_isTable d [.ref t, .int a0, .int a1, .int a2] h (fun v h2 => (h2 = r.2 ∧ v = some (.int r.1)) ∧ LY r.2)) (L0 : LY h) (hf : b_j_isUnion_79 KT x0 x1 x2 x3 x4 x5 x6 y0 h = some r) : XR l G xEX5_isUnion (d + 3) (79, [some (.ref x0), some (.int x1), some (.int x2), some (.ref x3), some (.int x4), some (va_rf x5), some (.int x6), none, none], [(.int y0)], h) (fun C => ∃ v, xRet xEX5_isUnion C v ∧ (C.2.2.2 = r.2 ∧ v = some (.int r.1)) ∧ LY r.2) := by
  unfold b_j_isUnion_79 at hf
  refine XS.go (s_istore rfl (Nat.le_of_ble_eq_true rfl)) ?_
  refine XS.go (s_iload rfl rfl) ?_
  refine XS.go (s_aloadO rfl rfl) ?_
  rcases qo2 : x5 with _ | b1
  · rw [qo2] at hf; cases hf
  rw [qo2] at hf; dsimp only at hf; try rw [qo2]
  by_cases qk3 : b1 < hz h ∧ hk h b1 = 2
  rotate_left
  · rw [if_neg qk3] at hf; cases hf
  rw [if_pos qk3] at hf
  refine XS.go (s_getie rfl xf5_80 qk3.1 qk3.2 (by decide) rfl rfl) ?_
  refine r_icmp_le (tgt := 103) rfl rfl (fun qc4 => ?_) (fun qc4 => ?_)
  · rw [if_pos qc4] at hf
    refine XS.go (s_aload rfl rfl) ?_
    refine XS.go (s_iload rfl rfl) ?_
    refine XS.go (s_iconst (v := 1) rfl rfl) ?_
    refine XS.go (s_isub rfl) ?_
    rcases e6 : f_d_fieldAt b1 (y0 - 1) h with _ | r5
    · rw [e6] at hf; cases hf
    rw [e6] at hf; dsimp only at hf
    refine r_callv rfl xvX2_fieldAt xm5_85 (kf_d_fieldAt (d := d) L0 e6) qk3.1 qk3.2 (by decide) rfl rfl (by omega) (by decide) (Nat.le_of_ble_eq_true rfl) ?_
    rintro _ _ ⟨⟨rfl, rfl⟩, L7⟩
    refine XS.go (s_astoreO rfl (Nat.le_of_ble_eq_true rfl)) ?_
    refine XS.go (s_aloadO rfl rfl) ?_
    refine r_ifnonnull (tgt := 127) rfl rfl (fun qn8 => ?_) (fun b9 qn8 => ?_)
    · rw [qn8] at hf; dsimp only at hf; try rw [qn8]
      refine XS.go (s_aloadn rfl rfl rfl) ?_
      refine XS.go (s_iloadn rfl rfl rfl) ?_
      refine XS.go (s_iloadn rfl rfl rfl) ?_
      refine XS.go (s_aloadn rfl rfl rfl) ?_
      by_cases qk10 : x0 < hz r5.2 ∧ hk r5.2 x0 = 5
      rotate_left
      · rw [if_neg qk10] at hf; cases hf
      rw [if_pos qk10] at hf
      rcases e12 : f_j_isEmptyUnion x0 x1 x2 x3 r5.2 with _ | r11
      · rw [e12] at hf; cases hf
      rw [e12] at hf; dsimp only at hf
      refine r_callv rfl xvX5_isEmptyUnion xm5_146 (kf_j_isEmptyUnion (d := d) L7 e12) qk10.1 qk10.2 (by decide) rfl rfl (by omega) (by decide) (Nat.le_of_ble_eq_true rfl) ?_
      rintro _ _ ⟨⟨rfl, rfl⟩, L13⟩
      by_cases qk14 : r11.1 = 0 ∨ r11.1 = 1
      rotate_left
      · rw [if_neg qk14] at hf; cases hf
      rw [if_pos qk14] at hf
      cases hf
      exact XR.retz rfl rfl qk14 (fun hret => ⟨_, hret, ⟨rfl, rfl⟩, L13⟩)
    · rw [qn8] at hf; dsimp only at hf; try rw [qn8]
      refine XS.go (s_aloadn rfl rfl rfl) ?_
      refine XS.go (s_iloadn rfl rfl rfl) ?_
      refine XS.go (s_iloadn rfl rfl rfl) ?_
      refine XS.go (s_aloadn rfl rfl rfl) ?_
      by_cases qk15 : x3 < hz r5.2 ∧ hk r5.2 x3 = 3
      rotate_left
      · rw [if_neg qk15] at hf; cases hf
      rw [if_pos qk15] at hf
      refine XS.go (s_getie rfl xf5_103 qk15.1 qk15.2 (by decide) rfl rfl) ?_
      refine XS.go (s_iconst (v := 1) rfl rfl) ?_
      refine XS.go (s_iadd rfl) ?_
      refine XS.go (s_aload rfl rfl) ?_
      by_cases qk16 : b9 < hz r5.2 ∧ hk r5.2 b9 = 3
      rotate_left
      · rw [if_neg qk16] at hf; cases hf
      rw [if_pos qk16] at hf
      refine XS.go (s_getie rfl xf5_114 qk16.1 qk16.2 (by decide) rfl rfl) ?_
      refine XS.go (s_iload rfl rfl) ?_
      by_cases qk17 : x0 < hz r5.2 ∧ hk r5.2 x0 = 5
      rotate_left
      · rw [if_neg qk17] at hf; cases hf
      rw [if_pos qk17] at hf
      rcases e19 : f_j_isMember KT x0 x1 x2 ((hi r5.2 x3 6) + 1) (hi r5.2 b9 4) x4 r5.2 with _ | r18
      · rw [e19] at hf; cases hf
      rw [e19] at hf; dsimp only at hf
      refine r_callv rfl xvX5_isMember xm5_150 (kf_j_isMember (d := d) hKT L7 e19) qk17.1 qk17.2 (by decide) rfl rfl (by omega) (by decide) (Nat.le_of_ble_eq_true rfl) ?_
      rintro _ _ ⟨⟨rfl, rfl⟩, L20⟩
      by_cases qk21 : r18.1 = 0 ∨ r18.1 = 1
      rotate_left
      · rw [if_neg qk21] at hf; cases hf
      rw [if_pos qk21] at hf
      cases hf
      exact XR.retz rfl rfl qk21 (fun hret => ⟨_, hret, ⟨rfl, rfl⟩, L20⟩)
  · rw [if_neg qc4] at hf
    refine XS.go (s_aloadn rfl rfl rfl) ?_
    refine XS.go (s_bipush (v := 12) rfl rfl) ?_
    refine XS.go (s_iloadn rfl rfl rfl) ?_
    refine XS.go (s_iload rfl rfl) ?_
    refine XS.go (s_iadd rfl) ?_
    refine XS.go (s_i2l rfl) ?_
    by_cases qk22 : x0 < hz h ∧ hk h x0 = 5
    rotate_left
    · rw [if_neg qk22] at hf; cases hf
    rw [if_pos qk22] at hf
    rcases e24 : f_j_wrong x0 12 (Int32.toInt64 (x1 + x6)) h with _ | r23
    · rw [e24] at hf; cases hf
    rw [e24] at hf; dsimp only at hf
    refine r_callv rfl xvX5_wrong xm5_32 (kf_j_wrong (d := d) L0 e24) qk22.1 qk22.2 (by decide) rfl rfl (by omega) (by decide) (Nat.le_of_ble_eq_true rfl) ?_
    rintro _ _ ⟨⟨rfl, rfl⟩, L25⟩
    by_cases qk26 : r23.1 = 0 ∨ r23.1 = 1
    rotate_left
    · rw [if_neg qk26] at hf; cases hf
    rw [if_pos qk26] at hf
    cases hf
    exact XR.retz rfl rfl qk26 (fun hret => ⟨_, hret, ⟨rfl, rfl⟩, L25⟩)
def b_j_isUnion_59 (KT : Nat → Int32 → Int32 → Int32 → XH → Option (Int32 × XH)) (x0 : Nat) (x1 : Int32) (x2 : Int32) (x3 : Nat) (x4 : Int32) (x5 : Option Nat) (x6 : Int32) (h : XH) : Option (Int32 × XH) := (if ¬ x6 = 0 then (if x0 < hz h ∧ hk h x0 = 5 then (match hr h x0 1 with | none => none | some b29 => (if b29 < hz h ∧ hk h b29 = 1 then (match f_b_octet b29 (x1 + x6) h with | none => none | some r32 => (b_j_isUnion_79 KT x0 x1 x2 x3 x4 x5 x6 r32.1 r32.2)) else none)) else none) else (b_j_isUnion_79 KT x0 x1 x2 x3 x4 x5 x6 0 h))
set_option maxRecDepth 20000 in
theorem kb_j_isUnion_59 {l : Launch} {G : XG} {d : Nat} {KT : Nat → Int32 → Int32 → Int32 → XH → Option (Int32 × XH)} {x0 : Nat} {x1 : Int32} {x2 : Int32} {x3 : Nat} {x4 : Int32} {x5 : Option Nat} {x6 : Int32} {h : XH} {r : Int32 × XH} (hKT : ∀ (t : Nat) (a0 : Int32) (a1 : Int32) (a2 : Int32) (h : XH) (r : Int32 × XH), LY h → KT t a0 a1 a2 h = some r → XC l G xEX5_isTable d [.ref t, .int a0, .int a1, .int a2] h (fun v h2 => (h2 = r.2 ∧ v = some (.int r.1)) ∧ LY r.2)) (L0 : LY h) (hf : b_j_isUnion_59 KT x0 x1 x2 x3 x4 x5 x6 h = some r) : XR l G xEX5_isUnion (d + 3) (59, [some (.ref x0), some (.int x1), some (.int x2), some (.ref x3), some (.int x4), some (va_rf x5), some (.int x6), none, none], [], h) (fun C => ∃ v, xRet xEX5_isUnion C v ∧ (C.2.2.2 = r.2 ∧ v = some (.int r.1)) ∧ LY r.2) := by
  unfold b_j_isUnion_59 at hf
  refine XS.go (s_iload rfl rfl) ?_
  refine r_if_ne (tgt := 68) rfl rfl (fun qc27 => ?_) (fun qc27 => ?_)
  · rw [if_pos qc27] at hf
    refine XS.go (s_aloadn rfl rfl rfl) ?_
    by_cases qk28 : x0 < hz h ∧ hk h x0 = 5
    rotate_left
    · rw [if_neg qk28] at hf; cases hf
    rw [if_pos qk28] at hf
    rcases qr30 : hr h x0 1 with _ | b29
    · rw [qr30] at hf; cases hf
    rw [qr30] at hf; dsimp only at hf
    refine XS.go (s_getr rfl xf5_25 qk28.1 qk28.2 (by decide) rfl qr30) ?_
    refine XS.go (s_iloadn rfl rfl rfl) ?_
    refine XS.go (s_iload rfl rfl) ?_
    refine XS.go (s_iadd rfl) ?_
    by_cases qk31 : b29 < hz h ∧ hk h b29 = 1
    rotate_left
    · rw [if_neg qk31] at hf; cases hf
    rw [if_pos qk31] at hf
    rcases e33 : f_b_octet b29 (x1 + x6) h with _ | r32
    · rw [e33] at hf; cases hf
    rw [e33] at hf; dsimp only at hf
    refine r_callv rfl xvX1_octet xm5_143 (kf_b_octet (d := d) L0 e33) qk31.1 qk31.2 (by decide) rfl rfl (by omega) (by decide) (Nat.le_of_ble_eq_true rfl) ?_
    rintro _ _ ⟨⟨rfl, rfl⟩, L34⟩
    exact XR.forget (L2 := [some (.ref x0), some (.int x1), some (.int x2), some (.ref x3), some (.int x4), some (va_rf x5), some (.int x6), none, none]) ⟨rfl, ⟨rfl, ⟨rfl, ⟨rfl, ⟨rfl, ⟨rfl, ⟨rfl, trivial⟩⟩⟩⟩⟩⟩⟩ (kb_j_isUnion_79 hKT L34 hf)
  · rw [if_neg qc27] at hf
    refine XS.go (s_iconst (v := 0) rfl rfl) ?_
    refine XS.go (s_goto (tgt := 79) rfl rfl) ?_
    exact XR.forget (L2 := [some (.ref x0), some (.int x1), some (.int x2), some (.ref x3), some (.int x4), some (va_rf x5), some (.int x6), none, none]) ⟨rfl, ⟨rfl, ⟨rfl, ⟨rfl, ⟨rfl, ⟨rfl, ⟨rfl, trivial⟩⟩⟩⟩⟩⟩⟩ (kb_j_isUnion_79 hKT L0 hf)
def f_j_isUnion (KT : Nat → Int32 → Int32 → Int32 → XH → Option (Int32 × XH)) (t : Nat) (a0 : Int32) (a1 : Int32) (a2 : Nat) (a3 : Int32) (h : XH) : Option (Int32 × XH) := (if t < hz h ∧ hk h t = 5 then (match hr h t 0 with | none => none | some b36 => (if b36 < hz h ∧ hk h b36 = 9 then (match hr h b36 2 with | none => none | some b39 => (if a2 < hz h ∧ hk h a2 = 3 then (if b39 < hz h ∧ hk h b39 = 4 then (match f_g_at b39 (hi h a2 4) h with | none => none | some r43 => (match r43.1 with | none => (some (0, r43.2)) | some b47 => (if t < hz r43.2 ∧ hk r43.2 t = 5 then (match hr r43.2 t 1 with | none => none | some b49 => (if a2 < hz r43.2 ∧ hk r43.2 a2 = 3 then (if b49 < hz r43.2 ∧ hk r43.2 b49 = 1 then (match f_b_slotNumber b49 a1 (hi r43.2 a2 6) r43.2 with | none => none | some r53 => (if r53.1 = 0 then (b_j_isUnion_59 KT t a0 a1 a2 a3 (some b47) r53.1 r53.2) else (if a2 < hz r53.2 ∧ hk r53.2 a2 = 3 then (if t < hz r53.2 ∧ hk r53.2 t = 5 then (match f_j_liesWell t a0 a1 (hi r53.2 a2 6) 1 1 r53.2 with | none => none | some r59 => (if ¬ r59.1 = 0 then (b_j_isUnion_59 KT t a0 a1 a2 a3 (some b47) r53.1 r59.2) else (some (0, r59.2)))) else none) else none))) else none) else none)) else none))) else none) else none)) else none)) else none)
set_option maxRecDepth 20000 in
theorem kf_j_isUnion {l : Launch} {G : XG} {d : Nat} {KT : Nat → Int32 → Int32 → Int32 → XH → Option (Int32 × XH)} {t : Nat} {a0 : Int32} {a1 : Int32} {a2 : Nat} {a3 : Int32} {h : XH} {r : Int32 × XH} (hKT : ∀ (t : Nat) (a0 : Int32) (a1 : Int32) (a2 : Int32) (h : XH) (r : Int32 × XH), LY h → KT t a0 a1 a2 h = some r → XC l G xEX5_isTable d [.ref t, .int a0, .int a1, .int a2] h (fun v h2 => (h2 = r.2 ∧ v = some (.int r.1)) ∧ LY r.2)) (L0 : LY h) (hf : f_j_isUnion KT t a0 a1 a2 a3 h = some r) : XC l G xEX5_isUnion (d + 3) [.ref t, .int a0, .int a1, .ref a2, .int a3] h (fun v h2 => (h2 = r.2 ∧ v = some (.int r.1)) ∧ LY r.2) := by
  refine XC.virt xvX5_isUnion (Nat.le_of_ble_eq_true rfl) ?_
  unfold f_j_isUnion at hf
  refine XS.go (s_aloadn rfl rfl rfl) ?_
  by_cases qk35 : t < hz h ∧ hk h t = 5
  rotate_left
  · rw [if_neg qk35] at hf; cases hf
  rw [if_pos qk35] at hf
  rcases qr37 : hr h t 0 with _ | b36
  · rw [qr37] at hf; cases hf
  rw [qr37] at hf; dsimp only at hf
  refine XS.go (s_getr rfl xf5_21 qk35.1 qk35.2 (by decide) rfl qr37) ?_
  by_cases qk38 : b36 < hz h ∧ hk h b36 = 9
  rotate_left
  · rw [if_neg qk38] at hf; cases hf
  rw [if_pos qk38] at hf
  rcases qr40 : hr h b36 2 with _ | b39
  · rw [qr40] at hf; cases hf
  rw [qr40] at hf; dsimp only at hf
  refine XS.go (s_getr rfl xf5_140 qk38.1 qk38.2 (by decide) rfl qr40) ?_
  refine XS.go (s_aloadn rfl rfl rfl) ?_
  by_cases qk41 : a2 < hz h ∧ hk h a2 = 3
  rotate_left
  · rw [if_neg qk41] at hf; cases hf
  rw [if_pos qk41] at hf
  refine XS.go (s_getie rfl xf5_114 qk41.1 qk41.2 (by decide) rfl rfl) ?_
  by_cases qk42 : b39 < hz h ∧ hk h b39 = 4
  rotate_left
  · rw [if_neg qk42] at hf; cases hf
  rw [if_pos qk42] at hf
  rcases e44 : f_g_at b39 (hi h a2 4) h with _ | r43
  · rw [e44] at hf; cases hf
  rw [e44] at hf; dsimp only at hf
  refine r_callv rfl xvX4_at xm5_67 (kf_g_at (d := d) L0 e44) qk42.1 qk42.2 (by decide) rfl rfl (by omega) (by decide) (Nat.le_of_ble_eq_true rfl) ?_
  rintro _ _ ⟨⟨rfl, rfl⟩, L45⟩
  refine XS.go (s_astoreO rfl (Nat.le_of_ble_eq_true rfl)) ?_
  refine XS.go (s_aloadO rfl rfl) ?_
  refine r_ifnonnull (tgt := 23) rfl rfl (fun qn46 => ?_) (fun b47 qn46 => ?_)
  · rw [qn46] at hf; dsimp only at hf; try rw [qn46]
    refine XS.go (s_iconst (v := 0) rfl rfl) ?_
    cases hf
    exact XR.retz rfl rfl (by decide) (fun hret => ⟨_, hret, ⟨rfl, rfl⟩, L45⟩)
  · rw [qn46] at hf; dsimp only at hf; try rw [qn46]
    refine XS.go (s_aloadn rfl rfl rfl) ?_
    by_cases qk48 : t < hz r43.2 ∧ hk r43.2 t = 5
    rotate_left
    · rw [if_neg qk48] at hf; cases hf
    rw [if_pos qk48] at hf
    rcases qr50 : hr r43.2 t 1 with _ | b49
    · rw [qr50] at hf; cases hf
    rw [qr50] at hf; dsimp only at hf
    refine XS.go (s_getr rfl xf5_25 qk48.1 qk48.2 (by decide) rfl qr50) ?_
    refine XS.go (s_iloadn rfl rfl rfl) ?_
    refine XS.go (s_aloadn rfl rfl rfl) ?_
    by_cases qk51 : a2 < hz r43.2 ∧ hk r43.2 a2 = 3
    rotate_left
    · rw [if_neg qk51] at hf; cases hf
    rw [if_pos qk51] at hf
    refine XS.go (s_getie rfl xf5_103 qk51.1 qk51.2 (by decide) rfl rfl) ?_
    by_cases qk52 : b49 < hz r43.2 ∧ hk r43.2 b49 = 1
    rotate_left
    · rw [if_neg qk52] at hf; cases hf
    rw [if_pos qk52] at hf
    rcases e54 : f_b_slotNumber b49 a1 (hi r43.2 a2 6) r43.2 with _ | r53
    · rw [e54] at hf; cases hf
    rw [e54] at hf; dsimp only at hf
    refine r_callv rfl xvX1_slotNumber xm5_106 (kf_b_slotNumber (d := d) L45 e54) qk52.1 qk52.2 (by decide) rfl rfl (by omega) (by decide) (Nat.le_of_ble_eq_true rfl) ?_
    rintro _ _ ⟨⟨rfl, rfl⟩, L55⟩
    refine XS.go (s_istore rfl (Nat.le_of_ble_eq_true rfl)) ?_
    refine XS.go (s_iload rfl rfl) ?_
    refine r_if_eq (tgt := 59) rfl rfl (fun qc56 => ?_) (fun qc56 => ?_)
    · rw [if_pos qc56] at hf
      exact XR.forget (L2 := [some (.ref t), some (.int a0), some (.int a1), some (.ref a2), some (.int a3), some (.ref b47), some (.int r53.1), none, none]) ⟨rfl, ⟨rfl, ⟨rfl, ⟨rfl, ⟨rfl, ⟨rfl, ⟨rfl, trivial⟩⟩⟩⟩⟩⟩⟩ (kb_j_isUnion_59 hKT L55 hf)
    · rw [if_neg qc56] at hf
      refine XS.go (s_aloadn rfl rfl rfl) ?_
      refine XS.go (s_iloadn rfl rfl rfl) ?_
      refine XS.go (s_iloadn rfl rfl rfl) ?_
      refine XS.go (s_aloadn rfl rfl rfl) ?_
      by_cases qk57 : a2 < hz r53.2 ∧ hk r53.2 a2 = 3
      rotate_left
      · rw [if_neg qk57] at hf; cases hf
      rw [if_pos qk57] at hf
      refine XS.go (s_getie rfl xf5_103 qk57.1 qk57.2 (by decide) rfl rfl) ?_
      refine XS.go (s_iconst (v := 1) rfl rfl) ?_
      refine XS.go (s_iconst (v := 1) rfl rfl) ?_
      by_cases qk58 : t < hz r53.2 ∧ hk r53.2 t = 5
      rotate_left
      · rw [if_neg qk58] at hf; cases hf
      rw [if_pos qk58] at hf
      rcases e60 : f_j_liesWell t a0 a1 (hi r53.2 a2 6) 1 1 r53.2 with _ | r59
      · rw [e60] at hf; cases hf
      rw [e60] at hf; dsimp only at hf
      refine r_callv rfl xvX5_liesWell xm5_122 (kf_j_liesWell (d := d) L55 e60) qk58.1 qk58.2 (by decide) rfl rfl (by omega) (by decide) (Nat.le_of_ble_eq_true rfl) ?_
      rintro _ _ ⟨⟨rfl, rfl⟩, L61⟩
      refine r_if_ne (tgt := 59) rfl rfl (fun qc62 => ?_) (fun qc62 => ?_)
      · rw [if_pos qc62] at hf
        exact XR.forget (L2 := [some (.ref t), some (.int a0), some (.int a1), some (.ref a2), some (.int a3), some (.ref b47), some (.int r53.1), none, none]) ⟨rfl, ⟨rfl, ⟨rfl, ⟨rfl, ⟨rfl, ⟨rfl, ⟨rfl, trivial⟩⟩⟩⟩⟩⟩⟩ (kb_j_isUnion_59 hKT L61 hf)
      · rw [if_neg qc62] at hf
        refine XS.go (s_iconst (v := 0) rfl rfl) ?_
        cases hf
        exact XR.retz rfl rfl (by decide) (fun hret => ⟨_, hret, ⟨rfl, rfl⟩, L61⟩)
def s_j_isVector_117 (KT : Nat → Int32 → Int32 → Int32 → XH → Option (Int32 × XH)) (K117 : Nat → Int32 → Int32 → Int32 → Int32 → Int32 → Int64 → Int32 → XH → Option (Int32 × XH)) (x0 : Nat) (x2 : Int32) (x3 : Int32) (x4 : Int32) (x6 : Int32) (x7 : Int32) (x8 : Int64) (x10 : Int32) (h : XH) : Option (Int32 × XH) := (if 0 ≤ (lg_cmp (Int32.toInt64 x10) x8) then (some (1, h)) else (if x0 < hz h ∧ hk h x0 = 5 then (match f_j_isContent KT x0 (x6 + (x10 * x7)) x2 x3 x4 h with | none => none | some r3 => (if ¬ r3.1 = 0 then (K117 x0 x2 x3 x4 x6 x7 x8 (x10 + 1) r3.2) else (some (0, r3.2)))) else none))
set_option maxRecDepth 20000 in
theorem ks_j_isVector_117 {l : Launch} {G : XG} {d : Nat} {KT : Nat → Int32 → Int32 → Int32 → XH → Option (Int32 × XH)} {K117 : Nat → Int32 → Int32 → Int32 → Int32 → Int32 → Int64 → Int32 → XH → Option (Int32 × XH)} {x0 : Nat} {x2 : Int32} {x3 : Int32} {x4 : Int32} {x6 : Int32} {x7 : Int32} {x8 : Int64} {x10 : Int32} {h : XH} {r : Int32 × XH} (hKT : ∀ (t : Nat) (a0 : Int32) (a1 : Int32) (a2 : Int32) (h : XH) (r : Int32 × XH), LY h → KT t a0 a1 a2 h = some r → XC l G xEX5_isTable d [.ref t, .int a0, .int a1, .int a2] h (fun v h2 => (h2 = r.2 ∧ v = some (.int r.1)) ∧ LY r.2)) (hK117 : ∀ (x0 : Nat) (x2 : Int32) (x3 : Int32) (x4 : Int32) (x6 : Int32) (x7 : Int32) (x8 : Int64) (x10 : Int32) (h : XH), LY h → K117 x0 x2 x3 x4 x6 x7 x8 x10 h = some r → XR l G xEX5_isVector (d + 3) (117, [some (.ref x0), none, some (.int x2), some (.int x3), some (.int x4), none, some (.int x6), some (.int x7), some (.long x8), none, some (.int x10)], [], h) (fun C => ∃ v, xRet xEX5_isVector C v ∧ (C.2.2.2 = r.2 ∧ v = some (.int r.1)) ∧ LY r.2)) (L0 : LY h) (hf : s_j_isVector_117 KT K117 x0 x2 x3 x4 x6 x7 x8 x10 h = some r) : XR l G xEX5_isVector (d + 3) (117, [some (.ref x0), none, some (.int x2), some (.int x3), some (.int x4), none, some (.int x6), some (.int x7), some (.long x8), none, some (.int x10)], [], h) (fun C => ∃ v, xRet xEX5_isVector C v ∧ (C.2.2.2 = r.2 ∧ v = some (.int r.1)) ∧ LY r.2) := by
  unfold s_j_isVector_117 at hf
  refine XS.go (s_iload rfl rfl) ?_
  refine XS.go (s_i2l rfl) ?_
  refine XS.go (s_lload rfl rfl) ?_
  refine XS.go (s_lcmp rfl) ?_
  refine r_if_ge (tgt := 153) rfl rfl (fun qc1 => ?_) (fun qc1 => ?_)
  · rw [if_pos qc1] at hf
    refine XS.go (s_iconst (v := 1) rfl rfl) ?_
    cases hf
    exact XR.retz rfl rfl (by decide) (fun hret => ⟨_, hret, ⟨rfl, rfl⟩, L0⟩)
  · rw [if_neg qc1] at hf
    refine XS.go (s_aloadn rfl rfl rfl) ?_
    refine XS.go (s_iload rfl rfl) ?_
    refine XS.go (s_iload rfl rfl) ?_
    refine XS.go (s_iload rfl rfl) ?_
    refine XS.go (s_imul rfl) ?_
    refine XS.go (s_iadd rfl) ?_
    refine XS.go (s_iloadn rfl rfl rfl) ?_
    refine XS.go (s_iloadn rfl rfl rfl) ?_
    refine XS.go (s_iload rfl rfl) ?_
    by_cases qk2 : x0 < hz h ∧ hk h x0 = 5
    rotate_left
    · rw [if_neg qk2] at hf; cases hf
    rw [if_pos qk2] at hf
    rcases e4 : f_j_isContent KT x0 (x6 + (x10 * x7)) x2 x3 x4 h with _ | r3
    · rw [e4] at hf; cases hf
    rw [e4] at hf; dsimp only at hf
    refine r_callv rfl xvX5_isContent xm5_133 (kf_j_isContent (d := d) hKT L0 e4) qk2.1 qk2.2 (by decide) rfl rfl (by omega) (by decide) (Nat.le_of_ble_eq_true rfl) ?_
    rintro _ _ ⟨⟨rfl, rfl⟩, L5⟩
    refine r_if_ne (tgt := 147) rfl rfl (fun qc6 => ?_) (fun qc6 => ?_)
    · rw [if_pos qc6] at hf
      refine XS.go (s_inc rfl rfl (Nat.le_of_ble_eq_true rfl)) ?_
      refine XS.go (s_goto (tgt := 117) rfl rfl) ?_
      exact XR.forget (L2 := [some (.ref x0), none, some (.int x2), some (.int x3), some (.int x4), none, some (.int x6), some (.int x7), some (.long x8), none, some (.int (x10 + 1))]) ⟨rfl, ⟨rfl, ⟨rfl, ⟨rfl, ⟨rfl, ⟨rfl, ⟨rfl, ⟨rfl, trivial⟩⟩⟩⟩⟩⟩⟩⟩ (hK117 x0 x2 x3 x4 x6 x7 x8 (x10 + 1) _ L5 hf)
    · rw [if_neg qc6] at hf
      refine XS.go (s_iconst (v := 0) rfl rfl) ?_
      cases hf
      exact XR.retz rfl rfl (by decide) (fun hret => ⟨_, hret, ⟨rfl, rfl⟩, L5⟩)
def b_j_isVector_117 (KT : Nat → Int32 → Int32 → Int32 → XH → Option (Int32 × XH)) : Nat → Nat → Int32 → Int32 → Int32 → Int32 → Int32 → Int64 → Int32 → XH → Option (Int32 × XH)
  | 0, _, _, _, _, _, _, _, _, _ => none
  | n + 1, x0, x2, x3, x4, x6, x7, x8, x10, h => s_j_isVector_117 KT (b_j_isVector_117 KT n) x0 x2 x3 x4 x6 x7 x8 x10 h
theorem kb_j_isVector_117 {l : Launch} {G : XG} {d : Nat} {KT : Nat → Int32 → Int32 → Int32 → XH → Option (Int32 × XH)} {n : Nat} {x0 : Nat} {x2 : Int32} {x3 : Int32} {x4 : Int32} {x6 : Int32} {x7 : Int32} {x8 : Int64} {x10 : Int32} {h : XH} {r : Int32 × XH} (hKT : ∀ (t : Nat) (a0 : Int32) (a1 : Int32) (a2 : Int32) (h : XH) (r : Int32 × XH), LY h → KT t a0 a1 a2 h = some r → XC l G xEX5_isTable d [.ref t, .int a0, .int a1, .int a2] h (fun v h2 => (h2 = r.2 ∧ v = some (.int r.1)) ∧ LY r.2)) (L0 : LY h) (hf : b_j_isVector_117 KT n x0 x2 x3 x4 x6 x7 x8 x10 h = some r) : XR l G xEX5_isVector (d + 3) (117, [some (.ref x0), none, some (.int x2), some (.int x3), some (.int x4), none, some (.int x6), some (.int x7), some (.long x8), none, some (.int x10)], [], h) (fun C => ∃ v, xRet xEX5_isVector C v ∧ (C.2.2.2 = r.2 ∧ v = some (.int r.1)) ∧ LY r.2) := by
  induction n generalizing x0 x2 x3 x4 x6 x7 x8 x10 h with
  | zero => cases hf
  | succ n ih => exact ks_j_isVector_117 hKT (fun x0 x2 x3 x4 x6 x7 x8 x10 h L0 hf => ih (h := h) (x0 := x0) (x2 := x2) (x3 := x3) (x4 := x4) (x6 := x6) (x7 := x7) (x8 := x8) (x10 := x10) L0 hf) L0 hf
def b_j_isVector_114 (KT : Nat → Int32 → Int32 → Int32 → XH → Option (Int32 × XH)) (x0 : Nat) (x2 : Int32) (x3 : Int32) (x4 : Int32) (x6 : Int32) (x7 : Int32) (x8 : Int64) (h : XH) : Option (Int32 × XH) := (b_j_isVector_117 KT 100000 x0 x2 x3 x4 x6 x7 x8 0 h)
set_option maxRecDepth 20000 in
theorem kb_j_isVector_114 {l : Launch} {G : XG} {d : Nat} {KT : Nat → Int32 → Int32 → Int32 → XH → Option (Int32 × XH)} {x0 : Nat} {x2 : Int32} {x3 : Int32} {x4 : Int32} {x6 : Int32} {x7 : Int32} {x8 : Int64} {h : XH} {r : Int32 × XH} (hKT : ∀ (t : Nat) (a0 : Int32) (a1 : Int32) (a2 : Int32) (h : XH) (r : Int32 × XH), LY h → KT t a0 a1 a2 h = some r → XC l G xEX5_isTable d [.ref t, .int a0, .int a1, .int a2] h (fun v h2 => (h2 = r.2 ∧ v = some (.int r.1)) ∧ LY r.2)) (L0 : LY h) (hf : b_j_isVector_114 KT x0 x2 x3 x4 x6 x7 x8 h = some r) : XR l G xEX5_isVector (d + 3) (114, [some (.ref x0), none, some (.int x2), some (.int x3), some (.int x4), none, some (.int x6), some (.int x7), some (.long x8), none, none], [], h) (fun C => ∃ v, xRet xEX5_isVector C v ∧ (C.2.2.2 = r.2 ∧ v = some (.int r.1)) ∧ LY r.2) := by
  unfold b_j_isVector_114 at hf
  refine XS.go (s_iconst (v := 0) rfl rfl) ?_
  refine XS.go (s_istore rfl (Nat.le_of_ble_eq_true rfl)) ?_
  exact XR.forget (L2 := [some (.ref x0), none, some (.int x2), some (.int x3), some (.int x4), none, some (.int x6), some (.int x7), some (.long x8), none, some (.int 0)]) ⟨rfl, ⟨rfl, ⟨rfl, ⟨rfl, ⟨rfl, ⟨rfl, ⟨rfl, ⟨rfl, trivial⟩⟩⟩⟩⟩⟩⟩⟩ (kb_j_isVector_117 hKT L0 hf)
def f_j_isVector (KT : Nat → Int32 → Int32 → Int32 → XH → Option (Int32 × XH)) (t : Nat) (a0 : Int32) (a1 : Int32) (a2 : Int32) (a3 : Int32) (h : XH) : Option (Int32 × XH) := (if t < hz h ∧ hk h t = 5 then (match f_j_isReference t a0 h with | none => none | some r8 => (if ¬ r8.1 = 0 then (if t < hz r8.2 ∧ hk r8.2 t = 5 then (match hr r8.2 t 1 with | none => none | some b13 => (if b13 < hz r8.2 ∧ hk r8.2 b13 = 1 then (match f_b_behind b13 a0 r8.2 with | none => none | some r16 => (if t < hz r16.2 ∧ hk r16.2 t = 5 then (match hr r16.2 t 0 with | none => none | some b20 => (if b20 < hz r16.2 ∧ hk r16.2 b20 = 9 then (match f_s_alignmentOf b20 a1 a2 r16.2 with | none => none | some r23 => (match f_t_isAligned (r16.1 + 4) r23.1 r23.2 with | none => none | some r26 => (if ¬ r26.1 = 0 then (if t < hz r26.2 ∧ hk r26.2 t = 5 then (match hr r26.2 t 0 with | none => none | some b31 => (if b31 < hz r26.2 ∧ hk r26.2 b31 = 9 then (match f_s_bytesOf b31 a1 a2 r26.2 with | none => none | some r34 => (if t < hz r34.2 ∧ hk r34.2 t = 5 then (match hr r34.2 t 1 with | none => none | some b38 => (if b38 < hz r34.2 ∧ hk r34.2 b38 = 1 then (match f_b_number b38 r16.1 4 r34.2 with | none => none | some r41 => (if t < hz r41.2 ∧ hk r41.2 t = 5 then (if (lg_cmp ((Int32.toInt64 (r16.1 + 4)) + (r41.1 * (Int32.toInt64 r34.1))) (Int32.toInt64 (hi r41.2 t 2))) ≤ 0 then (if ¬ a1 = 0 then (b_j_isVector_114 KT t a1 a2 a3 (r16.1 + 4) r34.1 r41.1 r41.2) else (if a2 = 0 then (b_j_isVector_114 KT t a1 a2 a3 (r16.1 + 4) r34.1 r41.1 r41.2) else (some (1, r41.2)))) else (match f_j_wrong t 13 (Int32.toInt64 r16.1) r41.2 with | none => none | some r48 => (if r48.1 = 0 ∨ r48.1 = 1 then (some (r48.1, r48.2)) else none))) else none)) else none)) else none)) else none)) else none) else (if t < hz r26.2 ∧ hk r26.2 t = 5 then (match f_j_wrong t 3 (Int32.toInt64 r16.1) r26.2 with | none => none | some r53 => (if r53.1 = 0 ∨ r53.1 = 1 then (some (r53.1, r53.2)) else none)) else none)))) else none)) else none)) else none)) else none) else (some (0, r8.2)))) else none)
set_option maxRecDepth 20000 in
theorem kf_j_isVector {l : Launch} {G : XG} {d : Nat} {KT : Nat → Int32 → Int32 → Int32 → XH → Option (Int32 × XH)} {t : Nat} {a0 : Int32} {a1 : Int32} {a2 : Int32} {a3 : Int32} {h : XH} {r : Int32 × XH} (hKT : ∀ (t : Nat) (a0 : Int32) (a1 : Int32) (a2 : Int32) (h : XH) (r : Int32 × XH), LY h → KT t a0 a1 a2 h = some r → XC l G xEX5_isTable d [.ref t, .int a0, .int a1, .int a2] h (fun v h2 => (h2 = r.2 ∧ v = some (.int r.1)) ∧ LY r.2)) (L0 : LY h) (hf : f_j_isVector KT t a0 a1 a2 a3 h = some r) : XC l G xEX5_isVector (d + 3) [.ref t, .int a0, .int a1, .int a2, .int a3] h (fun v h2 => (h2 = r.2 ∧ v = some (.int r.1)) ∧ LY r.2) := by
  refine XC.virt xvX5_isVector (Nat.le_of_ble_eq_true rfl) ?_
  unfold f_j_isVector at hf
  refine XS.go (s_aloadn rfl rfl rfl) ?_
  refine XS.go (s_iloadn rfl rfl rfl) ?_
  by_cases qk7 : t < hz h ∧ hk h t = 5
  rotate_left
  · rw [if_neg qk7] at hf; cases hf
  rw [if_pos qk7] at hf
  rcases e9 : f_j_isReference t a0 h with _ | r8
  · rw [e9] at hf; cases hf
  rw [e9] at hf; dsimp only at hf
  refine r_callv rfl xvX5_isReference xm5_55 (kf_j_isReference (d := d) L0 e9) qk7.1 qk7.2 (by decide) rfl rfl (by omega) (by decide) (Nat.le_of_ble_eq_true rfl) ?_
  rintro _ _ ⟨⟨rfl, rfl⟩, L10⟩
  refine r_if_ne (tgt := 10) rfl rfl (fun qc11 => ?_) (fun qc11 => ?_)
  · rw [if_pos qc11] at hf
    refine XS.go (s_aloadn rfl rfl rfl) ?_
    by_cases qk12 : t < hz r8.2 ∧ hk r8.2 t = 5
    rotate_left
    · rw [if_neg qk12] at hf; cases hf
    rw [if_pos qk12] at hf
    rcases qr14 : hr r8.2 t 1 with _ | b13
    · rw [qr14] at hf; cases hf
    rw [qr14] at hf; dsimp only at hf
    refine XS.go (s_getr rfl xf5_25 qk12.1 qk12.2 (by decide) rfl qr14) ?_
    refine XS.go (s_iloadn rfl rfl rfl) ?_
    by_cases qk15 : b13 < hz r8.2 ∧ hk r8.2 b13 = 1
    rotate_left
    · rw [if_neg qk15] at hf; cases hf
    rw [if_pos qk15] at hf
    rcases e17 : f_b_behind b13 a0 r8.2 with _ | r16
    · rw [e17] at hf; cases hf
    rw [e17] at hf; dsimp only at hf
    refine r_callv rfl xvX1_behind xm5_59 (kf_b_behind (d := d) L10 e17) qk15.1 qk15.2 (by decide) rfl rfl (by omega) (by decide) (Nat.le_of_ble_eq_true rfl) ?_
    rintro _ _ ⟨⟨rfl, rfl⟩, L18⟩
    refine XS.go (s_istore rfl (Nat.le_of_ble_eq_true rfl)) ?_
    refine XS.go (s_iload rfl rfl) ?_
    refine XS.go (s_iconst (v := 4) rfl rfl) ?_
    refine XS.go (s_iadd rfl) ?_
    refine XS.go (s_istore rfl (Nat.le_of_ble_eq_true rfl)) ?_
    refine XS.go (s_iload rfl rfl) ?_
    refine XS.go (s_aloadn rfl rfl rfl) ?_
    by_cases qk19 : t < hz r16.2 ∧ hk r16.2 t = 5
    rotate_left
    · rw [if_neg qk19] at hf; cases hf
    rw [if_pos qk19] at hf
    rcases qr21 : hr r16.2 t 0 with _ | b20
    · rw [qr21] at hf; cases hf
    rw [qr21] at hf; dsimp only at hf
    refine XS.go (s_getr rfl xf5_21 qk19.1 qk19.2 (by decide) rfl qr21) ?_
    refine XS.go (s_iloadn rfl rfl rfl) ?_
    refine XS.go (s_iloadn rfl rfl rfl) ?_
    by_cases qk22 : b20 < hz r16.2 ∧ hk r16.2 b20 = 9
    rotate_left
    · rw [if_neg qk22] at hf; cases hf
    rw [if_pos qk22] at hf
    rcases e24 : f_s_alignmentOf b20 a1 a2 r16.2 with _ | r23
    · rw [e24] at hf; cases hf
    rw [e24] at hf; dsimp only at hf
    refine r_callv rfl xvX9_alignmentOf xm5_119 (kf_s_alignmentOf (d := d) L18 e24) qk22.1 qk22.2 (by decide) rfl rfl (by omega) (by decide) (Nat.le_of_ble_eq_true rfl) ?_
    rintro _ _ ⟨⟨rfl, rfl⟩, L25⟩
    rcases e27 : f_t_isAligned (r16.1 + 4) r23.1 r23.2 with _ | r26
    · rw [e27] at hf; cases hf
    rw [e27] at hf; dsimp only at hf
    refine r_callsn rfl xsX11_isAligned (List.mem_of_getElem? (i := 11) rfl) (kf_t_isAligned (d := d) L25 e27) rfl rfl (by omega) (by decide) (Nat.le_of_ble_eq_true rfl) ?_
    rintro _ _ ⟨⟨rfl, rfl⟩, L28⟩
    refine r_if_ne (tgt := 52) rfl rfl (fun qc29 => ?_) (fun qc29 => ?_)
    · rw [if_pos qc29] at hf
      refine XS.go (s_aloadn rfl rfl rfl) ?_
      by_cases qk30 : t < hz r26.2 ∧ hk r26.2 t = 5
      rotate_left
      · rw [if_neg qk30] at hf; cases hf
      rw [if_pos qk30] at hf
      rcases qr32 : hr r26.2 t 0 with _ | b31
      · rw [qr32] at hf; cases hf
      rw [qr32] at hf; dsimp only at hf
      refine XS.go (s_getr rfl xf5_21 qk30.1 qk30.2 (by decide) rfl qr32) ?_
      refine XS.go (s_iloadn rfl rfl rfl) ?_
      refine XS.go (s_iloadn rfl rfl rfl) ?_
      by_cases qk33 : b31 < hz r26.2 ∧ hk r26.2 b31 = 9
      rotate_left
      · rw [if_neg qk33] at hf; cases hf
      rw [if_pos qk33] at hf
      rcases e35 : f_s_bytesOf b31 a1 a2 r26.2 with _ | r34
      · rw [e35] at hf; cases hf
      rw [e35] at hf; dsimp only at hf
      refine r_callv rfl xvX9_bytesOf xm5_116 (kf_s_bytesOf (d := d) L28 e35) qk33.1 qk33.2 (by decide) rfl rfl (by omega) (by decide) (Nat.le_of_ble_eq_true rfl) ?_
      rintro _ _ ⟨⟨rfl, rfl⟩, L36⟩
      refine XS.go (s_istore rfl (Nat.le_of_ble_eq_true rfl)) ?_
      refine XS.go (s_aloadn rfl rfl rfl) ?_
      by_cases qk37 : t < hz r34.2 ∧ hk r34.2 t = 5
      rotate_left
      · rw [if_neg qk37] at hf; cases hf
      rw [if_pos qk37] at hf
      rcases qr39 : hr r34.2 t 1 with _ | b38
      · rw [qr39] at hf; cases hf
      rw [qr39] at hf; dsimp only at hf
      refine XS.go (s_getr rfl xf5_25 qk37.1 qk37.2 (by decide) rfl qr39) ?_
      refine XS.go (s_iload rfl rfl) ?_
      refine XS.go (s_iconst (v := 4) rfl rfl) ?_
      by_cases qk40 : b38 < hz r34.2 ∧ hk r34.2 b38 = 1
      rotate_left
      · rw [if_neg qk40] at hf; cases hf
      rw [if_pos qk40] at hf
      rcases e42 : f_b_number b38 r16.1 4 r34.2 with _ | r41
      · rw [e42] at hf; cases hf
      rw [e42] at hf; dsimp only at hf
      refine r_callv rfl xvX1_number xm5_45 (kf_b_number (d := d) L36 e42) qk40.1 qk40.2 (by decide) rfl rfl (by omega) (by decide) (Nat.le_of_ble_eq_true rfl) ?_
      rintro _ _ ⟨⟨rfl, rfl⟩, L43⟩
      refine XS.go (s_lstore rfl (Nat.le_of_ble_eq_true rfl)) ?_
      refine XS.go (s_iload rfl rfl) ?_
      refine XS.go (s_i2l rfl) ?_
      refine XS.go (s_lload rfl rfl) ?_
      refine XS.go (s_iload rfl rfl) ?_
      refine XS.go (s_i2l rfl) ?_
      refine XS.go (s_lmul rfl) ?_
      refine XS.go (s_ladd rfl) ?_
      refine XS.go (s_aloadn rfl rfl rfl) ?_
      by_cases qk44 : t < hz r41.2 ∧ hk r41.2 t = 5
      rotate_left
      · rw [if_neg qk44] at hf; cases hf
      rw [if_pos qk44] at hf
      refine XS.go (s_getie rfl xf5_29 qk44.1 qk44.2 (by decide) rfl rfl) ?_
      refine XS.go (s_i2l rfl) ?_
      refine XS.go (s_lcmp rfl) ?_
      refine r_if_le (tgt := 104) rfl rfl (fun qc45 => ?_) (fun qc45 => ?_)
      · rw [if_pos qc45] at hf
        refine XS.go (s_iloadn rfl rfl rfl) ?_
        refine r_if_ne (tgt := 114) rfl rfl (fun qc46 => ?_) (fun qc46 => ?_)
        · rw [if_pos qc46] at hf
          exact XR.forget (L2 := [some (.ref t), none, some (.int a1), some (.int a2), some (.int a3), none, some (.int (r16.1 + 4)), some (.int r34.1), some (.long r41.1), none, none]) ⟨rfl, ⟨rfl, ⟨rfl, ⟨rfl, ⟨rfl, ⟨rfl, ⟨rfl, trivial⟩⟩⟩⟩⟩⟩⟩ (kb_j_isVector_114 hKT L43 hf)
        · rw [if_neg qc46] at hf
          refine XS.go (s_iloadn rfl rfl rfl) ?_
          refine r_if_eq (tgt := 114) rfl rfl (fun qc47 => ?_) (fun qc47 => ?_)
          · rw [if_pos qc47] at hf
            exact XR.forget (L2 := [some (.ref t), none, some (.int a1), some (.int a2), some (.int a3), none, some (.int (r16.1 + 4)), some (.int r34.1), some (.long r41.1), none, none]) ⟨rfl, ⟨rfl, ⟨rfl, ⟨rfl, ⟨rfl, ⟨rfl, ⟨rfl, trivial⟩⟩⟩⟩⟩⟩⟩ (kb_j_isVector_114 hKT L43 hf)
          · rw [if_neg qc47] at hf
            refine XS.go (s_iconst (v := 1) rfl rfl) ?_
            cases hf
            exact XR.retz rfl rfl (by decide) (fun hret => ⟨_, hret, ⟨rfl, rfl⟩, L43⟩)
      · rw [if_neg qc45] at hf
        refine XS.go (s_aloadn rfl rfl rfl) ?_
        refine XS.go (s_bipush (v := 13) rfl rfl) ?_
        refine XS.go (s_iload rfl rfl) ?_
        refine XS.go (s_i2l rfl) ?_
        rcases e49 : f_j_wrong t 13 (Int32.toInt64 r16.1) r41.2 with _ | r48
        · rw [e49] at hf; cases hf
        rw [e49] at hf; dsimp only at hf
        refine r_callv rfl xvX5_wrong xm5_32 (kf_j_wrong (d := d) L43 e49) qk44.1 qk44.2 (by decide) rfl rfl (by omega) (by decide) (Nat.le_of_ble_eq_true rfl) ?_
        rintro _ _ ⟨⟨rfl, rfl⟩, L50⟩
        by_cases qk51 : r48.1 = 0 ∨ r48.1 = 1
        rotate_left
        · rw [if_neg qk51] at hf; cases hf
        rw [if_pos qk51] at hf
        cases hf
        exact XR.retz rfl rfl qk51 (fun hret => ⟨_, hret, ⟨rfl, rfl⟩, L50⟩)
    · rw [if_neg qc29] at hf
      refine XS.go (s_aloadn rfl rfl rfl) ?_
      refine XS.go (s_iconst (v := 3) rfl rfl) ?_
      refine XS.go (s_iload rfl rfl) ?_
      refine XS.go (s_i2l rfl) ?_
      by_cases qk52 : t < hz r26.2 ∧ hk r26.2 t = 5
      rotate_left
      · rw [if_neg qk52] at hf; cases hf
      rw [if_pos qk52] at hf
      rcases e54 : f_j_wrong t 3 (Int32.toInt64 r16.1) r26.2 with _ | r53
      · rw [e54] at hf; cases hf
      rw [e54] at hf; dsimp only at hf
      refine r_callv rfl xvX5_wrong xm5_32 (kf_j_wrong (d := d) L28 e54) qk52.1 qk52.2 (by decide) rfl rfl (by omega) (by decide) (Nat.le_of_ble_eq_true rfl) ?_
      rintro _ _ ⟨⟨rfl, rfl⟩, L55⟩
      by_cases qk56 : r53.1 = 0 ∨ r53.1 = 1
      rotate_left
      · rw [if_neg qk56] at hf; cases hf
      rw [if_pos qk56] at hf
      cases hf
      exact XR.retz rfl rfl qk56 (fun hret => ⟨_, hret, ⟨rfl, rfl⟩, L55⟩)
  · rw [if_neg qc11] at hf
    refine XS.go (s_iconst (v := 0) rfl rfl) ?_
    cases hf
    exact XR.retz rfl rfl (by decide) (fun hret => ⟨_, hret, ⟨rfl, rfl⟩, L10⟩)
