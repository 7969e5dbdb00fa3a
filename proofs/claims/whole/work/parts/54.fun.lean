/-! Methods as functions of the heap -/
def f_p_newDefinition (t : Nat) (a0 : Nat) (h : XH) : Option (Option Nat × XH) := (if t < hz h ∧ hk h t = 7 then (if (hi h t 6) = 2 then (match hr h t 1 with | none => none | some b3 => (match hr h t 0 with | none => none | some b5 => (if b5 < hz h ∧ hk h b5 = 6 then (match f_x_head (hi h t 5) h with | none => none | some r8 => (if t < hz r8.2 ∧ hk r8.2 t = 7 then (match hr r8.2 t 0 with | none => none | some b12 => (if b12 < hz r8.2 ∧ hk r8.2 b12 = 6 then (match f_x_tail (hi r8.2 t 5) r8.2 with | none => none | some r15 => (if b3 < hz r15.2 ∧ hk r15.2 b3 = 9 then (match f_s_named b3 r8.1 r15.1 r15.2 with | none => none | some r19 => (match r19.1 with | none => (if t < hz r19.2 ∧ hk r19.2 t = 7 then (match hr r19.2 t 1 with | none => none | some b25 => (match hr r19.2 t 0 with | none => none | some b27 => (if b27 < hz r19.2 ∧ hk r19.2 b27 = 6 then (match f_x_head (hi r19.2 t 5) r19.2 with | none => none | some r30 => (if t < hz r30.2 ∧ hk r30.2 t = 7 then (match hr r30.2 t 0 with | none => none | some b34 => (if b34 < hz r30.2 ∧ hk r30.2 b34 = 6 then (match f_x_tail (hi r30.2 t 5) r30.2 with | none => none | some r37 => (if b25 < hz r37.2 ∧ hk r37.2 b25 = 9 then (match f_s_addTo b25 a0 r30.1 r37.1 r37.2 with | none => none | some r41 => (match r41.1 with | none => (if t < hz r41.2 ∧ hk r41.2 t = 7 then (match f_p_fail t 4 r41.2 with | none => none | some r47 => (some (none, r47.2))) else none) | some b45 => (if t < hz r41.2 ∧ hk r41.2 t = 7 then (match f_p_advance t r41.2 with | none => none | some r51 => (some (some b45, r51.2))) else none))) else none)) else none)) else none)) else none))) else none) | some b23 => (if t < hz r19.2 ∧ hk r19.2 t = 7 then (match f_p_fail t 3 r19.2 with | none => none | some r55 => (some (none, r55.2))) else none))) else none)) else none)) else none)) else none))) else (match f_p_fail t 2 h with | none => none | some r58 => (some (none, r58.2)))) else none)
set_option maxRecDepth 20000 in
theorem kf_p_newDefinition {l : Launch} {G : XG} {d : Nat} {t : Nat} {a0 : Nat} {h : XH} {r : Option Nat × XH} (L0 : LY h) (hf : f_p_newDefinition t a0 h = some r) : XC l G xEX7_newDefinition (d + 3) [.ref t, .ref a0] h (fun v h2 => (h2 = r.2 ∧ v = some (va_rf r.1)) ∧ LY r.2) := by
  refine XC.virt xvX7_newDefinition (Nat.le_of_ble_eq_true rfl) ?_
  unfold f_p_newDefinition at hf
  refine XS.go (s_aloadn rfl rfl rfl) ?_
  by_cases qk1 : t < hz h ∧ hk h t = 7
  rotate_left
  · rw [if_neg qk1] at hf; cases hf
  rw [if_pos qk1] at hf
  refine XS.go (s_getie rfl xf7_31 qk1.1 qk1.2 (by decide) rfl rfl) ?_
  refine XS.go (s_iconst (v := 2) rfl rfl) ?_
  refine r_icmp_eq (tgt := 16) rfl rfl (fun qc2 => ?_) (fun qc2 => ?_)
  · rw [if_pos qc2] at hf
    refine XS.go (s_aloadn rfl rfl rfl) ?_
    rcases qr4 : hr h t 1 with _ | b3
    · rw [qr4] at hf; cases hf
    rw [qr4] at hf; dsimp only at hf
    refine XS.go (s_getr rfl xf7_44 qk1.1 qk1.2 (by decide) rfl qr4) ?_
    refine XS.go (s_aloadn rfl rfl rfl) ?_
    rcases qr6 : hr h t 0 with _ | b5
    · rw [qr6] at hf; cases hf
    rw [qr6] at hf; dsimp only at hf
    refine XS.go (s_getr rfl xf7_40 qk1.1 qk1.2 (by decide) rfl qr6) ?_
    refine XS.go (s_aloadn rfl rfl rfl) ?_
    refine XS.go (s_getie rfl xf7_26 qk1.1 qk1.2 (by decide) rfl rfl) ?_
    by_cases qk7 : b5 < hz h ∧ hk h b5 = 6
    rotate_left
    · rw [if_neg qk7] at hf; cases hf
    rw [if_pos qk7] at hf
    rcases e9 : f_x_head (hi h t 5) h with _ | r8
    · rw [e9] at hf; cases hf
    rw [e9] at hf; dsimp only at hf
    refine r_callv rfl xvX6_head xm7_109 (kf_x_head (d := d) L0 e9) qk7.1 qk7.2 (by decide) rfl rfl (by omega) (by decide) (Nat.le_of_ble_eq_true rfl) ?_
    rintro _ _ ⟨⟨rfl, rfl⟩, L10⟩
    refine XS.go (s_aloadn rfl rfl rfl) ?_
    by_cases qk11 : t < hz r8.2 ∧ hk r8.2 t = 7
    rotate_left
    · rw [if_neg qk11] at hf; cases hf
    rw [if_pos qk11] at hf
    rcases qr13 : hr r8.2 t 0 with _ | b12
    · rw [qr13] at hf; cases hf
    rw [qr13] at hf; dsimp only at hf
    refine XS.go (s_getr rfl xf7_40 qk11.1 qk11.2 (by decide) rfl qr13) ?_
    refine XS.go (s_aloadn rfl rfl rfl) ?_
    refine XS.go (s_getie rfl xf7_26 qk11.1 qk11.2 (by decide) rfl rfl) ?_
    by_cases qk14 : b12 < hz r8.2 ∧ hk r8.2 b12 = 6
    rotate_left
    · rw [if_neg qk14] at hf; cases hf
    rw [if_pos qk14] at hf
    rcases e16 : f_x_tail (hi r8.2 t 5) r8.2 with _ | r15
    · rw [e16] at hf; cases hf
    rw [e16] at hf; dsimp only at hf
    refine r_callv rfl xvX6_tail xm7_113 (kf_x_tail (d := d) L10 e16) qk14.1 qk14.2 (by decide) rfl rfl (by omega) (by decide) (Nat.le_of_ble_eq_true rfl) ?_
    rintro _ _ ⟨⟨rfl, rfl⟩, L17⟩
    by_cases qk18 : b3 < hz r15.2 ∧ hk r15.2 b3 = 9
    rotate_left
    · rw [if_neg qk18] at hf; cases hf
    rw [if_pos qk18] at hf
    rcases e20 : f_s_named b3 r8.1 r15.1 r15.2 with _ | r19
    · rw [e20] at hf; cases hf
    rw [e20] at hf; dsimp only at hf
    refine r_callv rfl xvX9_named xm7_116 (kf_s_named (d := d) L17 e20) qk18.1 qk18.2 (by decide) rfl rfl (by omega) (by decide) (Nat.le_of_ble_eq_true rfl) ?_
    rintro _ _ ⟨⟨rfl, rfl⟩, L21⟩
    refine r_ifnull (tgt := 56) rfl rfl (fun qn22 => ?_) (fun b23 qn22 => ?_)
    · rw [qn22] at hf; dsimp only at hf; try rw [qn22]
      refine XS.go (s_aloadn rfl rfl rfl) ?_
      by_cases qk24 : t < hz r19.2 ∧ hk r19.2 t = 7
      rotate_left
      · rw [if_neg qk24] at hf; cases hf
      rw [if_pos qk24] at hf
      rcases qr26 : hr r19.2 t 1 with _ | b25
      · rw [qr26] at hf; cases hf
      rw [qr26] at hf; dsimp only at hf
      refine XS.go (s_getr rfl xf7_44 qk24.1 qk24.2 (by decide) rfl qr26) ?_
      refine XS.go (s_aloadn rfl rfl rfl) ?_
      refine XS.go (s_aloadn rfl rfl rfl) ?_
      rcases qr28 : hr r19.2 t 0 with _ | b27
      · rw [qr28] at hf; cases hf
      rw [qr28] at hf; dsimp only at hf
      refine XS.go (s_getr rfl xf7_40 qk24.1 qk24.2 (by decide) rfl qr28) ?_
      refine XS.go (s_aloadn rfl rfl rfl) ?_
      refine XS.go (s_getie rfl xf7_26 qk24.1 qk24.2 (by decide) rfl rfl) ?_
      by_cases qk29 : b27 < hz r19.2 ∧ hk r19.2 b27 = 6
      rotate_left
      · rw [if_neg qk29] at hf; cases hf
      rw [if_pos qk29] at hf
      rcases e31 : f_x_head (hi r19.2 t 5) r19.2 with _ | r30
      · rw [e31] at hf; cases hf
      rw [e31] at hf; dsimp only at hf
      refine r_callv rfl xvX6_head xm7_109 (kf_x_head (d := d) L21 e31) qk29.1 qk29.2 (by decide) rfl rfl (by omega) (by decide) (Nat.le_of_ble_eq_true rfl) ?_
      rintro _ _ ⟨⟨rfl, rfl⟩, L32⟩
      refine XS.go (s_aloadn rfl rfl rfl) ?_
      by_cases qk33 : t < hz r30.2 ∧ hk r30.2 t = 7
      rotate_left
      · rw [if_neg qk33] at hf; cases hf
      rw [if_pos qk33] at hf
      rcases qr35 : hr r30.2 t 0 with _ | b34
      · rw [qr35] at hf; cases hf
      rw [qr35] at hf; dsimp only at hf
      refine XS.go (s_getr rfl xf7_40 qk33.1 qk33.2 (by decide) rfl qr35) ?_
      refine XS.go (s_aloadn rfl rfl rfl) ?_
      refine XS.go (s_getie rfl xf7_26 qk33.1 qk33.2 (by decide) rfl rfl) ?_
      by_cases qk36 : b34 < hz r30.2 ∧ hk r30.2 b34 = 6
      rotate_left
      · rw [if_neg qk36] at hf; cases hf
      rw [if_pos qk36] at hf
      rcases e38 : f_x_tail (hi r30.2 t 5) r30.2 with _ | r37
      · rw [e38] at hf; cases hf
      rw [e38] at hf; dsimp only at hf
      refine r_callv rfl xvX6_tail xm7_113 (kf_x_tail (d := d) L32 e38) qk36.1 qk36.2 (by decide) rfl rfl (by omega) (by decide) (Nat.le_of_ble_eq_true rfl) ?_
      rintro _ _ ⟨⟨rfl, rfl⟩, L39⟩
      by_cases qk40 : b25 < hz r37.2 ∧ hk r37.2 b25 = 9
      rotate_left
      · rw [if_neg qk40] at hf; cases hf
      rw [if_pos qk40] at hf
      rcases e42 : f_s_addTo b25 a0 r30.1 r37.1 r37.2 with _ | r41
      · rw [e42] at hf; cases hf
      rw [e42] at hf; dsimp only at hf
      refine r_callv rfl xvX9_addTo xm7_120 (kf_s_addTo (d := d) L39 e42) qk40.1 qk40.2 (by decide) rfl rfl (by omega) (by decide) (Nat.le_of_ble_eq_true rfl) ?_
      rintro _ _ ⟨⟨rfl, rfl⟩, L43⟩
      refine XS.go (s_astorenO rfl rfl (Nat.le_of_ble_eq_true rfl)) ?_
      refine XS.go (s_aloadnO rfl rfl rfl) ?_
      refine r_ifnonnull (tgt := 99) rfl rfl (fun qn44 => ?_) (fun b45 qn44 => ?_)
      · rw [qn44] at hf; dsimp only at hf; try rw [qn44]
        refine XS.go (s_aloadn rfl rfl rfl) ?_
        refine XS.go (s_iconst (v := 4) rfl rfl) ?_
        by_cases qk46 : t < hz r41.2 ∧ hk r41.2 t = 7
        rotate_left
        · rw [if_neg qk46] at hf; cases hf
        rw [if_pos qk46] at hf
        rcases e48 : f_p_fail t 4 r41.2 with _ | r47
        · rw [e48] at hf; cases hf
        rw [e48] at hf; dsimp only at hf
        refine r_callv rfl xvX7_fail xm7_78 (kf_p_fail (d := d) L43 e48) qk46.1 qk46.2 (by decide) rfl rfl (by omega) (by decide) (Nat.le_of_ble_eq_true rfl) ?_
        rintro _ _ ⟨⟨rfl, rfl⟩, L49⟩
        refine XS.go (s_pop rfl rfl) ?_
        refine XS.go (s_null rfl) ?_
        cases hf
        exact XR.reta (o := none) rfl rfl (fun hret => ⟨_, hret, ⟨rfl, rfl⟩, L49⟩)
      · rw [qn44] at hf; dsimp only at hf; try rw [qn44]
        refine XS.go (s_aloadn rfl rfl rfl) ?_
        by_cases qk50 : t < hz r41.2 ∧ hk r41.2 t = 7
        rotate_left
        · rw [if_neg qk50] at hf; cases hf
        rw [if_pos qk50] at hf
        rcases e52 : f_p_advance t r41.2 with _ | r51
        · rw [e52] at hf; cases hf
        rw [e52] at hf; dsimp only at hf
        refine r_callv rfl xvX7_advance xm7_82 (kf_p_advance (d := d) L43 e52) qk50.1 qk50.2 (by decide) rfl rfl (by omega) (by decide) (Nat.le_of_ble_eq_true rfl) ?_
        rintro _ _ ⟨⟨rfl, rfl⟩, L53⟩
        refine XS.go (s_aloadn rfl rfl rfl) ?_
        cases hf
        exact XR.reta (o := (some b45)) rfl rfl (fun hret => ⟨_, hret, ⟨rfl, rfl⟩, L53⟩)
    · rw [qn22] at hf; dsimp only at hf; try rw [qn22]
      refine XS.go (s_aloadn rfl rfl rfl) ?_
      refine XS.go (s_iconst (v := 3) rfl rfl) ?_
      by_cases qk54 : t < hz r19.2 ∧ hk r19.2 t = 7
      rotate_left
      · rw [if_neg qk54] at hf; cases hf
      rw [if_pos qk54] at hf
      rcases e56 : f_p_fail t 3 r19.2 with _ | r55
      · rw [e56] at hf; cases hf
      rw [e56] at hf; dsimp only at hf
      refine r_callv rfl xvX7_fail xm7_78 (kf_p_fail (d := d) L21 e56) qk54.1 qk54.2 (by decide) rfl rfl (by omega) (by decide) (Nat.le_of_ble_eq_true rfl) ?_
      rintro _ _ ⟨⟨rfl, rfl⟩, L57⟩
      refine XS.go (s_pop rfl rfl) ?_
      refine XS.go (s_null rfl) ?_
      cases hf
      exact XR.reta (o := none) rfl rfl (fun hret => ⟨_, hret, ⟨rfl, rfl⟩, L57⟩)
  · rw [if_neg qc2] at hf
    refine XS.go (s_aloadn rfl rfl rfl) ?_
    refine XS.go (s_iconst (v := 2) rfl rfl) ?_
    rcases e59 : f_p_fail t 2 h with _ | r58
    · rw [e59] at hf; cases hf
    rw [e59] at hf; dsimp only at hf
    refine r_callv rfl xvX7_fail xm7_78 (kf_p_fail (d := d) L0 e59) qk1.1 qk1.2 (by decide) rfl rfl (by omega) (by decide) (Nat.le_of_ble_eq_true rfl) ?_
    rintro _ _ ⟨⟨rfl, rfl⟩, L60⟩
    refine XS.go (s_pop rfl rfl) ?_
    refine XS.go (s_null rfl) ?_
    cases hf
    exact XR.reta (o := none) rfl rfl (fun hret => ⟨_, hret, ⟨rfl, rfl⟩, L60⟩)
def f_p_expect (t : Nat) (a0 : Int32) (h : XH) : Option (Int32 × XH) := (if t < hz h ∧ hk h t = 7 then (if (hi h t 6) = a0 then (match f_p_advance t h with | none => none | some r3 => (some (1, r3.2))) else (match f_p_fail t 2 h with | none => none | some r6 => (if r6.1 = 0 ∨ r6.1 = 1 then (some (r6.1, r6.2)) else none))) else none)
set_option maxRecDepth 20000 in
theorem kf_p_expect {l : Launch} {G : XG} {d : Nat} {t : Nat} {a0 : Int32} {h : XH} {r : Int32 × XH} (L0 : LY h) (hf : f_p_expect t a0 h = some r) : XC l G xEX7_expect (d + 2) [.ref t, .int a0] h (fun v h2 => (h2 = r.2 ∧ v = some (.int r.1)) ∧ LY r.2) := by
  refine XC.virt xvX7_expect (Nat.le_of_ble_eq_true rfl) ?_
  unfold f_p_expect at hf
  refine XS.go (s_aloadn rfl rfl rfl) ?_
  by_cases qk1 : t < hz h ∧ hk h t = 7
  rotate_left
  · rw [if_neg qk1] at hf; cases hf
  rw [if_pos qk1] at hf
  refine XS.go (s_getie rfl xf7_31 qk1.1 qk1.2 (by decide) rfl rfl) ?_
  refine XS.go (s_iloadn rfl rfl rfl) ?_
  refine r_icmp_eq (tgt := 14) rfl rfl (fun qc2 => ?_) (fun qc2 => ?_)
  · rw [if_pos qc2] at hf
    refine XS.go (s_aloadn rfl rfl rfl) ?_
    rcases e4 : f_p_advance t h with _ | r3
    · rw [e4] at hf; cases hf
    rw [e4] at hf; dsimp only at hf
    refine r_callv rfl xvX7_advance xm7_82 (kf_p_advance (d := d) L0 e4) qk1.1 qk1.2 (by decide) rfl rfl (by omega) (by decide) (Nat.le_of_ble_eq_true rfl) ?_
    rintro _ _ ⟨⟨rfl, rfl⟩, L5⟩
    refine XS.go (s_iconst (v := 1) rfl rfl) ?_
    cases hf
    exact XR.retz rfl rfl (by decide) (fun hret => ⟨_, hret, ⟨rfl, rfl⟩, L5⟩)
  · rw [if_neg qc2] at hf
    refine XS.go (s_aloadn rfl rfl rfl) ?_
    refine XS.go (s_iconst (v := 2) rfl rfl) ?_
    rcases e7 : f_p_fail t 2 h with _ | r6
    · rw [e7] at hf; cases hf
    rw [e7] at hf; dsimp only at hf
    refine r_callv rfl xvX7_fail xm7_78 (kf_p_fail (d := d) L0 e7) qk1.1 qk1.2 (by decide) rfl rfl (by omega) (by decide) (Nat.le_of_ble_eq_true rfl) ?_
    rintro _ _ ⟨⟨rfl, rfl⟩, L8⟩
    by_cases qk9 : r6.1 = 0 ∨ r6.1 = 1
    rotate_left
    · rw [if_neg qk9] at hf; cases hf
    rw [if_pos qk9] at hf
    cases hf
    exact XR.retz rfl rfl qk9 (fun hret => ⟨_, hret, ⟨rfl, rfl⟩, L8⟩)
def b_p_addLeaves_26 (x1 : Nat) (x2 : Nat) (y0 : Option Nat) (h : XH) : Option (Unit × XH) := (match y0 with | none => (if x2 < hz h ∧ hk h x2 = 3 then (if x1 < hz h ∧ hk h x1 = 2 then (match f_d_addLeaf x1 (hi h x2 4) (hi h x2 6) h with | none => none | some r5 => (some ((), r5.2))) else none) else none) | some b2 => (if x2 < hz h ∧ hk h x2 = 3 then (if x1 < hz h ∧ hk h x1 = 2 then (match f_d_addLeavesOf x1 b2 (hi h x2 6) h with | none => none | some r10 => (some ((), r10.2))) else none) else none))
set_option maxRecDepth 20000 in
theorem kb_p_addLeaves_26 {l : Launch} {G : XG} {d : Nat} {x1 : Nat} {x2 : Nat} {y0 : Option Nat} {h : XH} {r : Unit × XH} (L0 : LY h) (hf : b_p_addLeaves_26 x1 x2 y0 h = some r) : XR l G xEX7_addLeaves (d + 2) (26, [none, some (.ref x1), some (.ref x2), none], [(va_rf y0)], h) (fun C => ∃ v, xRet xEX7_addLeaves C v ∧ (C.2.2.2 = r.2 ∧ v = none) ∧ LY r.2) := by
  unfold b_p_addLeaves_26 at hf
  refine XS.go (s_astorenO rfl rfl (Nat.le_of_ble_eq_true rfl)) ?_
  refine XS.go (s_aloadnO rfl rfl rfl) ?_
  refine r_ifnonnull (tgt := 46) rfl rfl (fun qn1 => ?_) (fun b2 qn1 => ?_)
  · rw [qn1] at hf; dsimp only at hf; try rw [qn1]
    refine XS.go (s_aloadn rfl rfl rfl) ?_
    refine XS.go (s_aloadn rfl rfl rfl) ?_
    by_cases qk3 : x2 < hz h ∧ hk h x2 = 3
    rotate_left
    · rw [if_neg qk3] at hf; cases hf
    rw [if_pos qk3] at hf
    refine XS.go (s_getie rfl xf7_69 qk3.1 qk3.2 (by decide) rfl rfl) ?_
    refine XS.go (s_aloadn rfl rfl rfl) ?_
    refine XS.go (s_getie rfl xf7_177 qk3.1 qk3.2 (by decide) rfl rfl) ?_
    by_cases qk4 : x1 < hz h ∧ hk h x1 = 2
    rotate_left
    · rw [if_neg qk4] at hf; cases hf
    rw [if_pos qk4] at hf
    rcases e6 : f_d_addLeaf x1 (hi h x2 4) (hi h x2 6) h with _ | r5
    · rw [e6] at hf; cases hf
    rw [e6] at hf; dsimp only at hf
    refine r_callv rfl xvX2_addLeaf xm7_201 (kf_d_addLeaf (d := d) L0 e6) qk4.1 qk4.2 (by decide) rfl rfl (by omega) (by decide) (Nat.le_of_ble_eq_true rfl) ?_
    rintro _ _ ⟨⟨rfl, rfl⟩, L7⟩
    refine XS.go (s_goto (tgt := 55) rfl rfl) ?_
    cases hf
    exact XR.retv rfl rfl (fun hret => ⟨_, hret, ⟨rfl, rfl⟩, L7⟩)
  · rw [qn1] at hf; dsimp only at hf; try rw [qn1]
    refine XS.go (s_aloadn rfl rfl rfl) ?_
    refine XS.go (s_aloadn rfl rfl rfl) ?_
    refine XS.go (s_aloadn rfl rfl rfl) ?_
    by_cases qk8 : x2 < hz h ∧ hk h x2 = 3
    rotate_left
    · rw [if_neg qk8] at hf; cases hf
    rw [if_pos qk8] at hf
    refine XS.go (s_getie rfl xf7_177 qk8.1 qk8.2 (by decide) rfl rfl) ?_
    by_cases qk9 : x1 < hz h ∧ hk h x1 = 2
    rotate_left
    · rw [if_neg qk9] at hf; cases hf
    rw [if_pos qk9] at hf
    rcases e11 : f_d_addLeavesOf x1 b2 (hi h x2 6) h with _ | r10
    · rw [e11] at hf; cases hf
    rw [e11] at hf; dsimp only at hf
    refine r_callv rfl xvX2_addLeavesOf xm7_205 (kf_d_addLeavesOf (d := d) L0 e11) qk9.1 qk9.2 (by decide) rfl rfl (by omega) (by decide) (Nat.le_of_ble_eq_true rfl) ?_
    rintro _ _ ⟨⟨rfl, rfl⟩, L12⟩
    cases hf
    exact XR.retv rfl rfl (fun hret => ⟨_, hret, ⟨rfl, rfl⟩, L12⟩)
def f_p_addLeaves (t : Nat) (a0 : Nat) (a1 : Nat) (h : XH) : Option (Unit × XH) := (if a1 < hz h ∧ hk h a1 = 3 then (if ¬ (hi h a1 3) = 2 then (b_p_addLeaves_26 a0 a1 none h) else (if t < hz h ∧ hk h t = 7 then (match hr h t 1 with | none => none | some b16 => (if b16 < hz h ∧ hk h b16 = 9 then (match hr h b16 0 with | none => none | some b19 => (if b19 < hz h ∧ hk h b19 = 4 then (match f_g_at b19 (hi h a1 4) h with | none => none | some r22 => (b_p_addLeaves_26 a0 a1 r22.1 r22.2)) else none)) else none)) else none)) else none)
set_option maxRecDepth 20000 in
theorem kf_p_addLeaves {l : Launch} {G : XG} {d : Nat} {t : Nat} {a0 : Nat} {a1 : Nat} {h : XH} {r : Unit × XH} (L0 : LY h) (hf : f_p_addLeaves t a0 a1 h = some r) : XC l G xEX7_addLeaves (d + 2) [.ref t, .ref a0, .ref a1] h (fun v h2 => (h2 = r.2 ∧ v = none) ∧ LY r.2) := by
  refine XC.virt xvX7_addLeaves (Nat.le_of_ble_eq_true rfl) ?_
  unfold f_p_addLeaves at hf
  refine XS.go (s_aloadn rfl rfl rfl) ?_
  by_cases qk13 : a1 < hz h ∧ hk h a1 = 3
  rotate_left
  · rw [if_neg qk13] at hf; cases hf
  rw [if_pos qk13] at hf
  refine XS.go (s_getie rfl xf7_158 qk13.1 qk13.2 (by decide) rfl rfl) ?_
  refine XS.go (s_iconst (v := 2) rfl rfl) ?_
  refine r_icmp_ne (tgt := 25) rfl rfl (fun qc14 => ?_) (fun qc14 => ?_)
  · rw [if_pos qc14] at hf
    refine XS.go (s_null rfl) ?_
    exact XR.forget (L2 := [none, some (.ref a0), some (.ref a1), none]) ⟨rfl, ⟨rfl, trivial⟩⟩ (kb_p_addLeaves_26 L0 hf)
  · rw [if_neg qc14] at hf
    refine XS.go (s_aloadn rfl rfl rfl) ?_
    by_cases qk15 : t < hz h ∧ hk h t = 7
    rotate_left
    · rw [if_neg qk15] at hf; cases hf
    rw [if_pos qk15] at hf
    rcases qr17 : hr h t 1 with _ | b16
    · rw [qr17] at hf; cases hf
    rw [qr17] at hf; dsimp only at hf
    refine XS.go (s_getr rfl xf7_44 qk15.1 qk15.2 (by decide) rfl qr17) ?_
    by_cases qk18 : b16 < hz h ∧ hk h b16 = 9
    rotate_left
    · rw [if_neg qk18] at hf; cases hf
    rw [if_pos qk18] at hf
    rcases qr20 : hr h b16 0 with _ | b19
    · rw [qr20] at hf; cases hf
    rw [qr20] at hf; dsimp only at hf
    refine XS.go (s_getr rfl xf7_85 qk18.1 qk18.2 (by decide) rfl qr20) ?_
    refine XS.go (s_aloadn rfl rfl rfl) ?_
    refine XS.go (s_getie rfl xf7_69 qk13.1 qk13.2 (by decide) rfl rfl) ?_
    by_cases qk21 : b19 < hz h ∧ hk h b19 = 4
    rotate_left
    · rw [if_neg qk21] at hf; cases hf
    rw [if_pos qk21] at hf
    rcases e23 : f_g_at b19 (hi h a1 4) h with _ | r22
    · rw [e23] at hf; cases hf
    rw [e23] at hf; dsimp only at hf
    refine r_callv rfl xvX4_at xm7_195 (kf_g_at (d := d) L0 e23) qk21.1 qk21.2 (by decide) rfl rfl (by omega) (by decide) (Nat.le_of_ble_eq_true rfl) ?_
    rintro _ _ ⟨⟨rfl, rfl⟩, L24⟩
    refine XS.go (s_goto (tgt := 26) rfl rfl) ?_
    exact XR.forget (L2 := [none, some (.ref a0), some (.ref a1), none]) ⟨rfl, ⟨rfl, trivial⟩⟩ (kb_p_addLeaves_26 L24 hf)
def b_p_findLeaves_26 (K2 : Nat → Nat → Int32 → XH → Option (Unit × XH)) (x0 : Nat) (x1 : Nat) (x2 : Int32) (h : XH) : Option (Unit × XH) := (K2 x0 x1 (x2 + 1) h)
set_option maxRecDepth 20000 in
theorem kb_p_findLeaves_26 {l : Launch} {G : XG} {d : Nat} {K2 : Nat → Nat → Int32 → XH → Option (Unit × XH)} {x0 : Nat} {x1 : Nat} {x2 : Int32} {h : XH} {r : Unit × XH} (hK2 : ∀ (x0 : Nat) (x1 : Nat) (x2 : Int32) (h : XH), LY h → K2 x0 x1 x2 h = some r → XR l G xEX7_findLeaves (d + 3) (2, [some (.ref x0), some (.ref x1), some (.int x2), none], [], h) (fun C => ∃ v, xRet xEX7_findLeaves C v ∧ (C.2.2.2 = r.2 ∧ v = none) ∧ LY r.2)) (L0 : LY h) (hf : b_p_findLeaves_26 K2 x0 x1 x2 h = some r) : XR l G xEX7_findLeaves (d + 3) (26, [some (.ref x0), some (.ref x1), some (.int x2), none], [], h) (fun C => ∃ v, xRet xEX7_findLeaves C v ∧ (C.2.2.2 = r.2 ∧ v = none) ∧ LY r.2) := by
  unfold b_p_findLeaves_26 at hf
  refine XS.go (s_inc rfl rfl (Nat.le_of_ble_eq_true rfl)) ?_
  refine XS.go (s_goto (tgt := 2) rfl rfl) ?_
  exact XR.forget (L2 := [some (.ref x0), some (.ref x1), some (.int (x2 + 1)), none]) ⟨rfl, ⟨rfl, ⟨rfl, trivial⟩⟩⟩ (hK2 x0 x1 (x2 + 1) _ L0 hf)
def s_p_findLeaves_2 (K2 : Nat → Nat → Int32 → XH → Option (Unit × XH)) (x0 : Nat) (x1 : Nat) (x2 : Int32) (h : XH) : Option (Unit × XH) := (if x1 < hz h ∧ hk h x1 = 2 then (if (hi h x1 3) ≤ x2 then (some ((), h)) else (match f_d_fieldAt x1 x2 h with | none => none | some r3 => (match r3.1 with | none => (b_p_findLeaves_26 K2 x0 x1 x2 r3.2) | some b7 => (if x0 < hz r3.2 ∧ hk r3.2 x0 = 7 then (match f_p_addLeaves x0 x1 b7 r3.2 with | none => none | some r9 => (b_p_findLeaves_26 K2 x0 x1 x2 r9.2)) else none)))) else none)
set_option maxRecDepth 20000 in
theorem ks_p_findLeaves_2 {l : Launch} {G : XG} {d : Nat} {K2 : Nat → Nat → Int32 → XH → Option (Unit × XH)} {x0 : Nat} {x1 : Nat} {x2 : Int32} {h : XH} {r : Unit × XH} (hK2 : ∀ (x0 : Nat) (x1 : Nat) (x2 : Int32) (h : XH), LY h → K2 x0 x1 x2 h = some r → XR l G xEX7_findLeaves (d + 3) (2, [some (.ref x0), some (.ref x1), some (.int x2), none], [], h) (fun C => ∃ v, xRet xEX7_findLeaves C v ∧ (C.2.2.2 = r.2 ∧ v = none) ∧ LY r.2)) (L0 : LY h) (hf : s_p_findLeaves_2 K2 x0 x1 x2 h = some r) : XR l G xEX7_findLeaves (d + 3) (2, [some (.ref x0), some (.ref x1), some (.int x2), none], [], h) (fun C => ∃ v, xRet xEX7_findLeaves C v ∧ (C.2.2.2 = r.2 ∧ v = none) ∧ LY r.2) := by
  unfold s_p_findLeaves_2 at hf
  refine XS.go (s_iloadn rfl rfl rfl) ?_
  refine XS.go (s_aloadn rfl rfl rfl) ?_
  by_cases qk1 : x1 < hz h ∧ hk h x1 = 2
  rotate_left
  · rw [if_neg qk1] at hf; cases hf
  rw [if_pos qk1] at hf
  refine XS.go (s_getie rfl xf7_163 qk1.1 qk1.2 (by decide) rfl rfl) ?_
  refine r_icmp_ge (tgt := 32) rfl rfl (fun qc2 => ?_) (fun qc2 => ?_)
  · rw [if_pos qc2] at hf
    cases hf
    exact XR.retv rfl rfl (fun hret => ⟨_, hret, ⟨rfl, rfl⟩, L0⟩)
  · rw [if_neg qc2] at hf
    refine XS.go (s_aloadn rfl rfl rfl) ?_
    refine XS.go (s_iloadn rfl rfl rfl) ?_
    rcases e4 : f_d_fieldAt x1 x2 h with _ | r3
    · rw [e4] at hf; cases hf
    rw [e4] at hf; dsimp only at hf
    refine r_callv rfl xvX2_fieldAt xm7_166 (kf_d_fieldAt (d := d) L0 e4) qk1.1 qk1.2 (by decide) rfl rfl (by omega) (by decide) (Nat.le_of_ble_eq_true rfl) ?_
    rintro _ _ ⟨⟨rfl, rfl⟩, L5⟩
    refine XS.go (s_astorenO rfl rfl (Nat.le_of_ble_eq_true rfl)) ?_
    refine XS.go (s_aloadnO rfl rfl rfl) ?_
    refine r_ifnull (tgt := 26) rfl rfl (fun qn6 => ?_) (fun b7 qn6 => ?_)
    · rw [qn6] at hf; dsimp only at hf; try rw [qn6]
      exact XR.forget (L2 := [some (.ref x0), some (.ref x1), some (.int x2), none]) ⟨rfl, ⟨rfl, ⟨rfl, trivial⟩⟩⟩ (kb_p_findLeaves_26 hK2 L5 hf)
    · rw [qn6] at hf; dsimp only at hf; try rw [qn6]
      refine XS.go (s_aloadn rfl rfl rfl) ?_
      refine XS.go (s_aloadn rfl rfl rfl) ?_
      refine XS.go (s_aloadn rfl rfl rfl) ?_
      by_cases qk8 : x0 < hz r3.2 ∧ hk r3.2 x0 = 7
      rotate_left
      · rw [if_neg qk8] at hf; cases hf
      rw [if_pos qk8] at hf
      rcases e10 : f_p_addLeaves x0 x1 b7 r3.2 with _ | r9
      · rw [e10] at hf; cases hf
      rw [e10] at hf; dsimp only at hf
      refine r_callv rfl xvX7_addLeaves xm7_191 (kf_p_addLeaves (d := d) L5 e10) qk8.1 qk8.2 (by decide) rfl rfl (by omega) (by decide) (Nat.le_of_ble_eq_true rfl) ?_
      rintro _ _ ⟨⟨rfl, rfl⟩, L11⟩
      exact XR.forget (L2 := [some (.ref x0), some (.ref x1), some (.int x2), none]) ⟨rfl, ⟨rfl, ⟨rfl, trivial⟩⟩⟩ (kb_p_findLeaves_26 hK2 L11 hf)
def b_p_findLeaves_2 : Nat → Nat → Nat → Int32 → XH → Option (Unit × XH)
  | 0, _, _, _, _ => none
  | n + 1, x0, x1, x2, h => s_p_findLeaves_2 (b_p_findLeaves_2 n) x0 x1 x2 h
theorem kb_p_findLeaves_2 {l : Launch} {G : XG} {d : Nat} {n : Nat} {x0 : Nat} {x1 : Nat} {x2 : Int32} {h : XH} {r : Unit × XH} (L0 : LY h) (hf : b_p_findLeaves_2 n x0 x1 x2 h = some r) : XR l G xEX7_findLeaves (d + 3) (2, [some (.ref x0), some (.ref x1), some (.int x2), none], [], h) (fun C => ∃ v, xRet xEX7_findLeaves C v ∧ (C.2.2.2 = r.2 ∧ v = none) ∧ LY r.2) := by
  induction n generalizing x0 x1 x2 h with
  | zero => cases hf
  | succ n ih => exact ks_p_findLeaves_2 (fun x0 x1 x2 h L0 hf => ih (h := h) (x0 := x0) (x1 := x1) (x2 := x2) L0 hf) L0 hf
def f_p_findLeaves (t : Nat) (a0 : Nat) (h : XH) : Option (Unit × XH) := (b_p_findLeaves_2 100000 t a0 0 h)
set_option maxRecDepth 20000 in
theorem kf_p_findLeaves {l : Launch} {G : XG} {d : Nat} {t : Nat} {a0 : Nat} {h : XH} {r : Unit × XH} (L0 : LY h) (hf : f_p_findLeaves t a0 h = some r) : XC l G xEX7_findLeaves (d + 3) [.ref t, .ref a0] h (fun v h2 => (h2 = r.2 ∧ v = none) ∧ LY r.2) := by
  refine XC.virt xvX7_findLeaves (Nat.le_of_ble_eq_true rfl) ?_
  unfold f_p_findLeaves at hf
  refine XS.go (s_iconst (v := 0) rfl rfl) ?_
  refine XS.go (s_istoren rfl rfl (Nat.le_of_ble_eq_true rfl)) ?_
  exact XR.forget (L2 := [some (.ref t), some (.ref a0), some (.int 0), none]) ⟨rfl, ⟨rfl, ⟨rfl, trivial⟩⟩⟩ (kb_p_findLeaves_2 L0 hf)
def b_p_layOut_87 (K2 : Nat → Nat → Int32 → XH → Option (Unit × XH)) (x0 : Nat) (x1 : Nat) (x2 : Int32) (h : XH) : Option (Unit × XH) := (K2 x0 x1 (x2 + 1) h)
set_option maxRecDepth 20000 in
theorem kb_p_layOut_87 {l : Launch} {G : XG} {d : Nat} {K2 : Nat → Nat → Int32 → XH → Option (Unit × XH)} {x0 : Nat} {x1 : Nat} {x2 : Int32} {h : XH} {r : Unit × XH} (hK2 : ∀ (x0 : Nat) (x1 : Nat) (x2 : Int32) (h : XH), LY h → K2 x0 x1 x2 h = some r → XR l G xEX7_layOut (d + 2) (2, [some (.ref x0), some (.ref x1), some (.int x2), none, none], [], h) (fun C => ∃ v, xRet xEX7_layOut C v ∧ (C.2.2.2 = r.2 ∧ v = none) ∧ LY r.2)) (L0 : LY h) (hf : b_p_layOut_87 K2 x0 x1 x2 h = some r) : XR l G xEX7_layOut (d + 2) (87, [some (.ref x0), some (.ref x1), some (.int x2), none, none], [], h) (fun C => ∃ v, xRet xEX7_layOut C v ∧ (C.2.2.2 = r.2 ∧ v = none) ∧ LY r.2) := by
  unfold b_p_layOut_87 at hf
  refine XS.go (s_inc rfl rfl (Nat.le_of_ble_eq_true rfl)) ?_
  refine XS.go (s_goto (tgt := 2) rfl rfl) ?_
  exact XR.forget (L2 := [some (.ref x0), some (.ref x1), some (.int (x2 + 1)), none, none]) ⟨rfl, ⟨rfl, ⟨rfl, trivial⟩⟩⟩ (hK2 x0 x1 (x2 + 1) _ L0 hf)
def s_p_layOut_2 (K2 : Nat → Nat → Int32 → XH → Option (Unit × XH)) (x0 : Nat) (x1 : Nat) (x2 : Int32) (h : XH) : Option (Unit × XH) := (if x1 < hz h ∧ hk h x1 = 2 then (if (hi h x1 3) ≤ x2 then (match f_t_roundUp (hi h x1 6) (hi h x1 7) h with | none => none | some r3 => (if x1 < hz r3.2 ∧ hk r3.2 x1 = 2 then (some ((), (hsi r3.2 x1 6 r3.1))) else none)) else (match f_d_fieldAt x1 x2 h with | none => none | some r7 => (match r7.1 with | none => (b_p_layOut_87 K2 x0 x1 x2 r7.2) | some b11 => (if x0 < hz r7.2 ∧ hk r7.2 x0 = 7 then (match hr r7.2 x0 1 with | none => none | some b13 => (if b11 < hz r7.2 ∧ hk r7.2 b11 = 3 then (if b13 < hz r7.2 ∧ hk r7.2 b13 = 9 then (match f_s_alignmentOf b13 (hi r7.2 b11 3) (hi r7.2 b11 4) r7.2 with | none => none | some r17 => (if x1 < hz r17.2 ∧ hk r17.2 x1 = 2 then (match f_t_roundUp (hi r17.2 x1 6) r17.1 r17.2 with | none => none | some r21 => (if b11 < hz r21.2 ∧ hk r21.2 b11 = 3 then (if x0 < hz r21.2 ∧ hk r21.2 x0 = 7 then (match hr r21.2 x0 1 with | none => none | some b26 => (if b26 < hz r21.2 ∧ hk r21.2 b26 = 9 then (match f_s_bytesOf b26 (hi r21.2 b11 3) (hi r21.2 b11 4) (hsi r21.2 b11 6 r21.1) with | none => none | some r29 => (if x1 < hz r29.2 ∧ hk r29.2 x1 = 2 then (b_p_layOut_87 K2 x0 x1 x2 (hsi (hsi r29.2 x1 6 (r21.1 + r29.1)) x1 7 (if (hi r29.2 x1 7) < r17.1 then r17.1 else (hi r29.2 x1 7)))) else none)) else none)) else none) else none)) else none)) else none) else none)) else none)))) else none)
set_option maxRecDepth 20000 in
theorem ks_p_layOut_2 {l : Launch} {G : XG} {d : Nat} {K2 : Nat → Nat → Int32 → XH → Option (Unit × XH)} {x0 : Nat} {x1 : Nat} {x2 : Int32} {h : XH} {r : Unit × XH} (hK2 : ∀ (x0 : Nat) (x1 : Nat) (x2 : Int32) (h : XH), LY h → K2 x0 x1 x2 h = some r → XR l G xEX7_layOut (d + 2) (2, [some (.ref x0), some (.ref x1), some (.int x2), none, none], [], h) (fun C => ∃ v, xRet xEX7_layOut C v ∧ (C.2.2.2 = r.2 ∧ v = none) ∧ LY r.2)) (L0 : LY h) (hf : s_p_layOut_2 K2 x0 x1 x2 h = some r) : XR l G xEX7_layOut (d + 2) (2, [some (.ref x0), some (.ref x1), some (.int x2), none, none], [], h) (fun C => ∃ v, xRet xEX7_layOut C v ∧ (C.2.2.2 = r.2 ∧ v = none) ∧ LY r.2) := by
  unfold s_p_layOut_2 at hf
  refine XS.go (s_iloadn rfl rfl rfl) ?_
  refine XS.go (s_aloadn rfl rfl rfl) ?_
  by_cases qk1 : x1 < hz h ∧ hk h x1 = 2
  rotate_left
  · rw [if_neg qk1] at hf; cases hf
  rw [if_pos qk1] at hf
  refine XS.go (s_getie rfl xf7_163 qk1.1 qk1.2 (by decide) rfl rfl) ?_
  refine r_icmp_ge (tgt := 93) rfl rfl (fun qc2 => ?_) (fun qc2 => ?_)
  · rw [if_pos qc2] at hf
    refine XS.go (s_aloadn rfl rfl rfl) ?_
    refine XS.go (s_aloadn rfl rfl rfl) ?_
    refine XS.go (s_getie rfl xf7_149 qk1.1 qk1.2 (by decide) rfl rfl) ?_
    refine XS.go (s_aloadn rfl rfl rfl) ?_
    refine XS.go (s_getie rfl xf7_183 qk1.1 qk1.2 (by decide) rfl rfl) ?_
    rcases e4 : f_t_roundUp (hi h x1 6) (hi h x1 7) h with _ | r3
    · rw [e4] at hf; cases hf
    rw [e4] at hf; dsimp only at hf
    refine r_callsn rfl xsX11_roundUp (List.mem_of_getElem? (i := 13) rfl) (kf_t_roundUp (d := d) L0 e4) rfl rfl (by omega) (by decide) (Nat.le_of_ble_eq_true rfl) ?_
    rintro _ _ ⟨⟨rfl, rfl⟩, L5⟩
    by_cases qk6 : x1 < hz r3.2 ∧ hk r3.2 x1 = 2
    rotate_left
    · rw [if_neg qk6] at hf; cases hf
    rw [if_pos qk6] at hf
    refine XS.go (s_puti rfl xf7_149 qk6.1 qk6.2 (by decide) rfl (Or.inl rfl)) ?_
    cases hf
    exact XR.retv rfl rfl (fun hret => ⟨_, hret, ⟨rfl, rfl⟩, (by simp only [LY_si, LY_sj]; exact L5)⟩)
  · rw [if_neg qc2] at hf
    refine XS.go (s_aloadn rfl rfl rfl) ?_
    refine XS.go (s_iloadn rfl rfl rfl) ?_
    rcases e8 : f_d_fieldAt x1 x2 h with _ | r7
    · rw [e8] at hf; cases hf
    rw [e8] at hf; dsimp only at hf
    refine r_callv rfl xvX2_fieldAt xm7_166 (kf_d_fieldAt (d := d) L0 e8) qk1.1 qk1.2 (by decide) rfl rfl (by omega) (by decide) (Nat.le_of_ble_eq_true rfl) ?_
    rintro _ _ ⟨⟨rfl, rfl⟩, L9⟩
    refine XS.go (s_astorenO rfl rfl (Nat.le_of_ble_eq_true rfl)) ?_
    refine XS.go (s_aloadnO rfl rfl rfl) ?_
    refine r_ifnull (tgt := 87) rfl rfl (fun qn10 => ?_) (fun b11 qn10 => ?_)
    · rw [qn10] at hf; dsimp only at hf; try rw [qn10]
      exact XR.forget (L2 := [some (.ref x0), some (.ref x1), some (.int x2), none, none]) ⟨rfl, ⟨rfl, ⟨rfl, trivial⟩⟩⟩ (kb_p_layOut_87 hK2 L9 hf)
    · rw [qn10] at hf; dsimp only at hf; try rw [qn10]
      refine XS.go (s_aloadn rfl rfl rfl) ?_
      by_cases qk12 : x0 < hz r7.2 ∧ hk r7.2 x0 = 7
      rotate_left
      · rw [if_neg qk12] at hf; cases hf
      rw [if_pos qk12] at hf
      rcases qr14 : hr r7.2 x0 1 with _ | b13
      · rw [qr14] at hf; cases hf
      rw [qr14] at hf; dsimp only at hf
      refine XS.go (s_getr rfl xf7_44 qk12.1 qk12.2 (by decide) rfl qr14) ?_
      refine XS.go (s_aloadn rfl rfl rfl) ?_
      by_cases qk15 : b11 < hz r7.2 ∧ hk r7.2 b11 = 3
      rotate_left
      · rw [if_neg qk15] at hf; cases hf
      rw [if_pos qk15] at hf
      refine XS.go (s_getie rfl xf7_158 qk15.1 qk15.2 (by decide) rfl rfl) ?_
      refine XS.go (s_aloadn rfl rfl rfl) ?_
      refine XS.go (s_getie rfl xf7_69 qk15.1 qk15.2 (by decide) rfl rfl) ?_
      by_cases qk16 : b13 < hz r7.2 ∧ hk r7.2 b13 = 9
      rotate_left
      · rw [if_neg qk16] at hf; cases hf
      rw [if_pos qk16] at hf
      rcases e18 : f_s_alignmentOf b13 (hi r7.2 b11 3) (hi r7.2 b11 4) r7.2 with _ | r17
      · rw [e18] at hf; cases hf
      rw [e18] at hf; dsimp only at hf
      refine r_callv rfl xvX9_alignmentOf xm7_170 (kf_s_alignmentOf (d := d) L9 e18) qk16.1 qk16.2 (by decide) rfl rfl (by omega) (by decide) (Nat.le_of_ble_eq_true rfl) ?_
      rintro _ _ ⟨⟨rfl, rfl⟩, L19⟩
      refine XS.go (s_istore rfl (Nat.le_of_ble_eq_true rfl)) ?_
      refine XS.go (s_aloadn rfl rfl rfl) ?_
      refine XS.go (s_aloadn rfl rfl rfl) ?_
      by_cases qk20 : x1 < hz r17.2 ∧ hk r17.2 x1 = 2
      rotate_left
      · rw [if_neg qk20] at hf; cases hf
      rw [if_pos qk20] at hf
      refine XS.go (s_getie rfl xf7_149 qk20.1 qk20.2 (by decide) rfl rfl) ?_
      refine XS.go (s_iload rfl rfl) ?_
      rcases e22 : f_t_roundUp (hi r17.2 x1 6) r17.1 r17.2 with _ | r21
      · rw [e22] at hf; cases hf
      rw [e22] at hf; dsimp only at hf
      refine r_callsn rfl xsX11_roundUp (List.mem_of_getElem? (i := 13) rfl) (kf_t_roundUp (d := d) L19 e22) rfl rfl (by omega) (by decide) (Nat.le_of_ble_eq_true rfl) ?_
      rintro _ _ ⟨⟨rfl, rfl⟩, L23⟩
      by_cases qk24 : b11 < hz r21.2 ∧ hk r21.2 b11 = 3
      rotate_left
      · rw [if_neg qk24] at hf; cases hf
      rw [if_pos qk24] at hf
      refine XS.go (s_puti rfl xf7_177 qk24.1 qk24.2 (by decide) rfl (Or.inl rfl)) ?_
      refine XS.go (s_aloadn rfl rfl rfl) ?_
      refine XS.go (s_aloadn rfl rfl rfl) ?_
      refine XS.go (s_getie rfl xf7_177 (by simp only [hz_hsi, hk_hsi, hz_hsj, hk_hsj]; exact qk24.1) (by simp only [hz_hsi, hk_hsi, hz_hsj, hk_hsj]; exact qk24.2) (by decide) rfl hi_hsi_eq) ?_
      refine XS.go (s_aloadn rfl rfl rfl) ?_
      by_cases qk25 : x0 < hz r21.2 ∧ hk r21.2 x0 = 7
      rotate_left
      · rw [if_neg qk25] at hf; cases hf
      rw [if_pos qk25] at hf
      rcases qr27 : hr r21.2 x0 1 with _ | b26
      · rw [qr27] at hf; cases hf
      rw [qr27] at hf; dsimp only at hf
      refine XS.go (s_getr rfl xf7_44 (by simp only [hz_hsi, hk_hsi, hz_hsj, hk_hsj]; exact qk25.1) (by simp only [hz_hsi, hk_hsi, hz_hsj, hk_hsj]; exact qk25.2) (by decide) rfl (by simp only [hr_hsi, hr_hsj]; exact qr27)) ?_
      refine XS.go (s_aloadn rfl rfl rfl) ?_
      refine XS.go (s_getie rfl xf7_158 (by simp only [hz_hsi, hk_hsi, hz_hsj, hk_hsj]; exact qk24.1) (by simp only [hz_hsi, hk_hsi, hz_hsj, hk_hsj]; exact qk24.2) (by decide) rfl (hi_hsi_nk (by decide))) ?_
      refine XS.go (s_aloadn rfl rfl rfl) ?_
      refine XS.go (s_getie rfl xf7_69 (by simp only [hz_hsi, hk_hsi, hz_hsj, hk_hsj]; exact qk24.1) (by simp only [hz_hsi, hk_hsi, hz_hsj, hk_hsj]; exact qk24.2) (by decide) rfl (hi_hsi_nk (by decide))) ?_
      by_cases qk28 : b26 < hz r21.2 ∧ hk r21.2 b26 = 9
      rotate_left
      · rw [if_neg qk28] at hf; cases hf
      rw [if_pos qk28] at hf
      rcases e30 : f_s_bytesOf b26 (hi r21.2 b11 3) (hi r21.2 b11 4) (hsi r21.2 b11 6 r21.1) with _ | r29
      · rw [e30] at hf; cases hf
      rw [e30] at hf; dsimp only at hf
      refine r_callv rfl xvX9_bytesOf xm7_180 (kf_s_bytesOf (d := d) (by simp only [LY_si, LY_sj]; exact L23) e30) (by simp only [hz_hsi, hk_hsi, hz_hsj, hk_hsj]; exact qk28.1) (by simp only [hz_hsi, hk_hsi, hz_hsj, hk_hsj]; exact qk28.2) (by decide) rfl rfl (by omega) (by decide) (Nat.le_of_ble_eq_true rfl) ?_
      rintro _ _ ⟨⟨rfl, rfl⟩, L31⟩
      refine XS.go (s_iadd rfl) ?_
      by_cases qk32 : x1 < hz r29.2 ∧ hk r29.2 x1 = 2
      rotate_left
      · rw [if_neg qk32] at hf; cases hf
      rw [if_pos qk32] at hf
      refine XS.go (s_puti rfl xf7_149 qk32.1 qk32.2 (by decide) rfl (Or.inl rfl)) ?_
      refine XS.go (s_aloadn rfl rfl rfl) ?_
      refine XS.go (s_aloadn rfl rfl rfl) ?_
      refine XS.go (s_getie rfl xf7_183 (by simp only [hz_hsi, hk_hsi, hz_hsj, hk_hsj]; exact qk32.1) (by simp only [hz_hsi, hk_hsi, hz_hsj, hk_hsj]; exact qk32.2) (by decide) rfl (hi_hsi_nk (by decide))) ?_
      refine XS.go (s_iload rfl rfl) ?_
      refine XS.go (s_max rfl (lg_5 129 rfl rfl) (by omega) (Nat.le_of_ble_eq_true rfl)) ?_
      refine XS.go (s_puti rfl xf7_183 (by simp only [hz_hsi, hk_hsi, hz_hsj, hk_hsj]; exact qk32.1) (by simp only [hz_hsi, hk_hsi, hz_hsj, hk_hsj]; exact qk32.2) (by decide) rfl (Or.inl rfl)) ?_
      exact XR.forget (L2 := [some (.ref x0), some (.ref x1), some (.int x2), none, none]) ⟨rfl, ⟨rfl, ⟨rfl, trivial⟩⟩⟩ (kb_p_layOut_87 hK2 (by simp only [LY_si, LY_sj]; exact L31) hf)
def b_p_layOut_2 : Nat → Nat → Nat → Int32 → XH → Option (Unit × XH)
  | 0, _, _, _, _ => none
  | n + 1, x0, x1, x2, h => s_p_layOut_2 (b_p_layOut_2 n) x0 x1 x2 h
theorem kb_p_layOut_2 {l : Launch} {G : XG} {d : Nat} {n : Nat} {x0 : Nat} {x1 : Nat} {x2 : Int32} {h : XH} {r : Unit × XH} (L0 : LY h) (hf : b_p_layOut_2 n x0 x1 x2 h = some r) : XR l G xEX7_layOut (d + 2) (2, [some (.ref x0), some (.ref x1), some (.int x2), none, none], [], h) (fun C => ∃ v, xRet xEX7_layOut C v ∧ (C.2.2.2 = r.2 ∧ v = none) ∧ LY r.2) := by
  induction n generalizing x0 x1 x2 h with
  | zero => cases hf
  | succ n ih => exact ks_p_layOut_2 (fun x0 x1 x2 h L0 hf => ih (h := h) (x0 := x0) (x1 := x1) (x2 := x2) L0 hf) L0 hf
def f_p_layOut (t : Nat) (a0 : Nat) (h : XH) : Option (Unit × XH) := (b_p_layOut_2 100000 t a0 0 h)
set_option maxRecDepth 20000 in
theorem kf_p_layOut {l : Launch} {G : XG} {d : Nat} {t : Nat} {a0 : Nat} {h : XH} {r : Unit × XH} (L0 : LY h) (hf : f_p_layOut t a0 h = some r) : XC l G xEX7_layOut (d + 2) [.ref t, .ref a0] h (fun v h2 => (h2 = r.2 ∧ v = none) ∧ LY r.2) := by
  refine XC.virt xvX7_layOut (Nat.le_of_ble_eq_true rfl) ?_
  unfold f_p_layOut at hf
  refine XS.go (s_iconst (v := 0) rfl rfl) ?_
  refine XS.go (s_istoren rfl rfl (Nat.le_of_ble_eq_true rfl)) ?_
  exact XR.forget (L2 := [some (.ref t), some (.ref a0), some (.int 0), none, none]) ⟨rfl, ⟨rfl, ⟨rfl, trivial⟩⟩⟩ (kb_p_layOut_2 L0 hf)
def f_p_newField (t : Nat) (a0 : Nat) (h : XH) : Option (Option Nat × XH) := (if t < hz h ∧ hk h t = 7 then (if (hi h t 6) = 2 then (match hr h t 0 with | none => none | some b3 => (if b3 < hz h ∧ hk h b3 = 6 then (match f_x_head (hi h t 5) h with | none => none | some r6 => (if t < hz r6.2 ∧ hk r6.2 t = 7 then (match hr r6.2 t 0 with | none => none | some b10 => (if b10 < hz r6.2 ∧ hk r6.2 b10 = 6 then (match f_x_tail (hi r6.2 t 5) r6.2 with | none => none | some r13 => (if a0 < hz r13.2 ∧ hk r13.2 a0 = 2 then (match f_d_fieldNamed a0 r6.1 r13.1 r13.2 with | none => none | some r17 => (if r17.1 = (-1) then (if t < hz r17.2 ∧ hk r17.2 t = 7 then (match hr r17.2 t 0 with | none => none | some b22 => (if b22 < hz r17.2 ∧ hk r17.2 b22 = 6 then (match f_x_head (hi r17.2 t 5) r17.2 with | none => none | some r25 => (if t < hz r25.2 ∧ hk r25.2 t = 7 then (match hr r25.2 t 0 with | none => none | some b29 => (if b29 < hz r25.2 ∧ hk r25.2 b29 = 6 then (match f_x_tail (hi r25.2 t 5) r25.2 with | none => none | some r32 => (if a0 < hz r32.2 ∧ hk r32.2 a0 = 2 then (match f_d_addField a0 r25.1 r32.1 r32.2 with | none => none | some r36 => (match r36.1 with | none => (if t < hz r36.2 ∧ hk r36.2 t = 7 then (match f_p_fail t 4 r36.2 with | none => none | some r42 => (some (none, r42.2))) else none) | some b40 => (if t < hz r36.2 ∧ hk r36.2 t = 7 then (match f_p_advance t r36.2 with | none => none | some r46 => (some (some b40, r46.2))) else none))) else none)) else none)) else none)) else none)) else none) else (if t < hz r17.2 ∧ hk r17.2 t = 7 then (match f_p_fail t 3 r17.2 with | none => none | some r50 => (some (none, r50.2))) else none))) else none)) else none)) else none)) else none)) else (match f_p_fail t 2 h with | none => none | some r53 => (some (none, r53.2)))) else none)
set_option maxRecDepth 20000 in
theorem kf_p_newField {l : Launch} {G : XG} {d : Nat} {t : Nat} {a0 : Nat} {h : XH} {r : Option Nat × XH} (L0 : LY h) (hf : f_p_newField t a0 h = some r) : XC l G xEX7_newField (d + 2) [.ref t, .ref a0] h (fun v h2 => (h2 = r.2 ∧ v = some (va_rf r.1)) ∧ LY r.2) := by
  refine XC.virt xvX7_newField (Nat.le_of_ble_eq_true rfl) ?_
  unfold f_p_newField at hf
  refine XS.go (s_aloadn rfl rfl rfl) ?_
  by_cases qk1 : t < hz h ∧ hk h t = 7
  rotate_left
  · rw [if_neg qk1] at hf; cases hf
  rw [if_pos qk1] at hf
  refine XS.go (s_getie rfl xf7_31 qk1.1 qk1.2 (by decide) rfl rfl) ?_
  refine XS.go (s_iconst (v := 2) rfl rfl) ?_
  refine r_icmp_eq (tgt := 16) rfl rfl (fun qc2 => ?_) (fun qc2 => ?_)
  · rw [if_pos qc2] at hf
    refine XS.go (s_aloadn rfl rfl rfl) ?_
    refine XS.go (s_aloadn rfl rfl rfl) ?_
    rcases qr4 : hr h t 0 with _ | b3
    · rw [qr4] at hf; cases hf
    rw [qr4] at hf; dsimp only at hf
    refine XS.go (s_getr rfl xf7_40 qk1.1 qk1.2 (by decide) rfl qr4) ?_
    refine XS.go (s_aloadn rfl rfl rfl) ?_
    refine XS.go (s_getie rfl xf7_26 qk1.1 qk1.2 (by decide) rfl rfl) ?_
    by_cases qk5 : b3 < hz h ∧ hk h b3 = 6
    rotate_left
    · rw [if_neg qk5] at hf; cases hf
    rw [if_pos qk5] at hf
    rcases e7 : f_x_head (hi h t 5) h with _ | r6
    · rw [e7] at hf; cases hf
    rw [e7] at hf; dsimp only at hf
    refine r_callv rfl xvX6_head xm7_109 (kf_x_head (d := d) L0 e7) qk5.1 qk5.2 (by decide) rfl rfl (by omega) (by decide) (Nat.le_of_ble_eq_true rfl) ?_
    rintro _ _ ⟨⟨rfl, rfl⟩, L8⟩
    refine XS.go (s_aloadn rfl rfl rfl) ?_
    by_cases qk9 : t < hz r6.2 ∧ hk r6.2 t = 7
    rotate_left
    · rw [if_neg qk9] at hf; cases hf
    rw [if_pos qk9] at hf
    rcases qr11 : hr r6.2 t 0 with _ | b10
    · rw [qr11] at hf; cases hf
    rw [qr11] at hf; dsimp only at hf
    refine XS.go (s_getr rfl xf7_40 qk9.1 qk9.2 (by decide) rfl qr11) ?_
    refine XS.go (s_aloadn rfl rfl rfl) ?_
    refine XS.go (s_getie rfl xf7_26 qk9.1 qk9.2 (by decide) rfl rfl) ?_
    by_cases qk12 : b10 < hz r6.2 ∧ hk r6.2 b10 = 6
    rotate_left
    · rw [if_neg qk12] at hf; cases hf
    rw [if_pos qk12] at hf
    rcases e14 : f_x_tail (hi r6.2 t 5) r6.2 with _ | r13
    · rw [e14] at hf; cases hf
    rw [e14] at hf; dsimp only at hf
    refine r_callv rfl xvX6_tail xm7_113 (kf_x_tail (d := d) L8 e14) qk12.1 qk12.2 (by decide) rfl rfl (by omega) (by decide) (Nat.le_of_ble_eq_true rfl) ?_
    rintro _ _ ⟨⟨rfl, rfl⟩, L15⟩
    by_cases qk16 : a0 < hz r13.2 ∧ hk r13.2 a0 = 2
    rotate_left
    · rw [if_neg qk16] at hf; cases hf
    rw [if_pos qk16] at hf
    rcases e18 : f_d_fieldNamed a0 r6.1 r13.1 r13.2 with _ | r17
    · rw [e18] at hf; cases hf
    rw [e18] at hf; dsimp only at hf
    refine r_callv rfl xvX2_fieldNamed xm7_124 (kf_d_fieldNamed (d := d) L15 e18) qk16.1 qk16.2 (by decide) rfl rfl (by omega) (by decide) (Nat.le_of_ble_eq_true rfl) ?_
    rintro _ _ ⟨⟨rfl, rfl⟩, L19⟩
    refine XS.go (s_iconst (v := (-1)) rfl rfl) ?_
    refine r_icmp_eq (tgt := 54) rfl rfl (fun qc20 => ?_) (fun qc20 => ?_)
    · rw [if_pos qc20] at hf
      refine XS.go (s_aloadn rfl rfl rfl) ?_
      refine XS.go (s_aloadn rfl rfl rfl) ?_
      by_cases qk21 : t < hz r17.2 ∧ hk r17.2 t = 7
      rotate_left
      · rw [if_neg qk21] at hf; cases hf
      rw [if_pos qk21] at hf
      rcases qr23 : hr r17.2 t 0 with _ | b22
      · rw [qr23] at hf; cases hf
      rw [qr23] at hf; dsimp only at hf
      refine XS.go (s_getr rfl xf7_40 qk21.1 qk21.2 (by decide) rfl qr23) ?_
      refine XS.go (s_aloadn rfl rfl rfl) ?_
      refine XS.go (s_getie rfl xf7_26 qk21.1 qk21.2 (by decide) rfl rfl) ?_
      by_cases qk24 : b22 < hz r17.2 ∧ hk r17.2 b22 = 6
      rotate_left
      · rw [if_neg qk24] at hf; cases hf
      rw [if_pos qk24] at hf
      rcases e26 : f_x_head (hi r17.2 t 5) r17.2 with _ | r25
      · rw [e26] at hf; cases hf
      rw [e26] at hf; dsimp only at hf
      refine r_callv rfl xvX6_head xm7_109 (kf_x_head (d := d) L19 e26) qk24.1 qk24.2 (by decide) rfl rfl (by omega) (by decide) (Nat.le_of_ble_eq_true rfl) ?_
      rintro _ _ ⟨⟨rfl, rfl⟩, L27⟩
      refine XS.go (s_aloadn rfl rfl rfl) ?_
      by_cases qk28 : t < hz r25.2 ∧ hk r25.2 t = 7
      rotate_left
      · rw [if_neg qk28] at hf; cases hf
      rw [if_pos qk28] at hf
      rcases qr30 : hr r25.2 t 0 with _ | b29
      · rw [qr30] at hf; cases hf
      rw [qr30] at hf; dsimp only at hf
      refine XS.go (s_getr rfl xf7_40 qk28.1 qk28.2 (by decide) rfl qr30) ?_
      refine XS.go (s_aloadn rfl rfl rfl) ?_
      refine XS.go (s_getie rfl xf7_26 qk28.1 qk28.2 (by decide) rfl rfl) ?_
      by_cases qk31 : b29 < hz r25.2 ∧ hk r25.2 b29 = 6
      rotate_left
      · rw [if_neg qk31] at hf; cases hf
      rw [if_pos qk31] at hf
      rcases e33 : f_x_tail (hi r25.2 t 5) r25.2 with _ | r32
      · rw [e33] at hf; cases hf
      rw [e33] at hf; dsimp only at hf
      refine r_callv rfl xvX6_tail xm7_113 (kf_x_tail (d := d) L27 e33) qk31.1 qk31.2 (by decide) rfl rfl (by omega) (by decide) (Nat.le_of_ble_eq_true rfl) ?_
      rintro _ _ ⟨⟨rfl, rfl⟩, L34⟩
      by_cases qk35 : a0 < hz r32.2 ∧ hk r32.2 a0 = 2
      rotate_left
      · rw [if_neg qk35] at hf; cases hf
      rw [if_pos qk35] at hf
      rcases e37 : f_d_addField a0 r25.1 r32.1 r32.2 with _ | r36
      · rw [e37] at hf; cases hf
      rw [e37] at hf; dsimp only at hf
      refine r_callv rfl xvX2_addField xm7_130 (kf_d_addField (d := d) L34 e37) qk35.1 qk35.2 (by decide) rfl rfl (by omega) (by decide) (Nat.le_of_ble_eq_true rfl) ?_
      rintro _ _ ⟨⟨rfl, rfl⟩, L38⟩
      refine XS.go (s_astorenO rfl rfl (Nat.le_of_ble_eq_true rfl)) ?_
      refine XS.go (s_aloadnO rfl rfl rfl) ?_
      refine r_ifnonnull (tgt := 93) rfl rfl (fun qn39 => ?_) (fun b40 qn39 => ?_)
      · rw [qn39] at hf; dsimp only at hf; try rw [qn39]
        refine XS.go (s_aloadn rfl rfl rfl) ?_
        refine XS.go (s_iconst (v := 4) rfl rfl) ?_
        by_cases qk41 : t < hz r36.2 ∧ hk r36.2 t = 7
        rotate_left
        · rw [if_neg qk41] at hf; cases hf
        rw [if_pos qk41] at hf
        rcases e43 : f_p_fail t 4 r36.2 with _ | r42
        · rw [e43] at hf; cases hf
        rw [e43] at hf; dsimp only at hf
        refine r_callv rfl xvX7_fail xm7_78 (kf_p_fail (d := d) L38 e43) qk41.1 qk41.2 (by decide) rfl rfl (by omega) (by decide) (Nat.le_of_ble_eq_true rfl) ?_
        rintro _ _ ⟨⟨rfl, rfl⟩, L44⟩
        refine XS.go (s_pop rfl rfl) ?_
        refine XS.go (s_null rfl) ?_
        cases hf
        exact XR.reta (o := none) rfl rfl (fun hret => ⟨_, hret, ⟨rfl, rfl⟩, L44⟩)
      · rw [qn39] at hf; dsimp only at hf; try rw [qn39]
        refine XS.go (s_aloadn rfl rfl rfl) ?_
        by_cases qk45 : t < hz r36.2 ∧ hk r36.2 t = 7
        rotate_left
        · rw [if_neg qk45] at hf; cases hf
        rw [if_pos qk45] at hf
        rcases e47 : f_p_advance t r36.2 with _ | r46
        · rw [e47] at hf; cases hf
        rw [e47] at hf; dsimp only at hf
        refine r_callv rfl xvX7_advance xm7_82 (kf_p_advance (d := d) L38 e47) qk45.1 qk45.2 (by decide) rfl rfl (by omega) (by decide) (Nat.le_of_ble_eq_true rfl) ?_
        rintro _ _ ⟨⟨rfl, rfl⟩, L48⟩
        refine XS.go (s_aloadn rfl rfl rfl) ?_
        cases hf
        exact XR.reta (o := (some b40)) rfl rfl (fun hret => ⟨_, hret, ⟨rfl, rfl⟩, L48⟩)
    · rw [if_neg qc20] at hf
      refine XS.go (s_aloadn rfl rfl rfl) ?_
      refine XS.go (s_iconst (v := 3) rfl rfl) ?_
      by_cases qk49 : t < hz r17.2 ∧ hk r17.2 t = 7
      rotate_left
      · rw [if_neg qk49] at hf; cases hf
      rw [if_pos qk49] at hf
      rcases e51 : f_p_fail t 3 r17.2 with _ | r50
      · rw [e51] at hf; cases hf
      rw [e51] at hf; dsimp only at hf
      refine r_callv rfl xvX7_fail xm7_78 (kf_p_fail (d := d) L19 e51) qk49.1 qk49.2 (by decide) rfl rfl (by omega) (by decide) (Nat.le_of_ble_eq_true rfl) ?_
      rintro _ _ ⟨⟨rfl, rfl⟩, L52⟩
      refine XS.go (s_pop rfl rfl) ?_
      refine XS.go (s_null rfl) ?_
      cases hf
      exact XR.reta (o := none) rfl rfl (fun hret => ⟨_, hret, ⟨rfl, rfl⟩, L52⟩)
  · rw [if_neg qc2] at hf
    refine XS.go (s_aloadn rfl rfl rfl) ?_
    refine XS.go (s_iconst (v := 2) rfl rfl) ?_
    rcases e54 : f_p_fail t 2 h with _ | r53
    · rw [e54] at hf; cases hf
    rw [e54] at hf; dsimp only at hf
    refine r_callv rfl xvX7_fail xm7_78 (kf_p_fail (d := d) L0 e54) qk1.1 qk1.2 (by decide) rfl rfl (by omega) (by decide) (Nat.le_of_ble_eq_true rfl) ?_
    rintro _ _ ⟨⟨rfl, rfl⟩, L55⟩
    refine XS.go (s_pop rfl rfl) ?_
    refine XS.go (s_null rfl) ?_
    cases hf
    exact XR.reta (o := none) rfl rfl (fun hret => ⟨_, hret, ⟨rfl, rfl⟩, L55⟩)
def b_p_readStructType_115 (x0 : Nat) (h : XH) : Option (Int32 × XH) := (if x0 < hz h ∧ hk h x0 = 7 then (match f_p_advance x0 h with | none => none | some r2 => (some (1, r2.2))) else none)
set_option maxRecDepth 20000 in
theorem kb_p_readStructType_115 {l : Launch} {G : XG} {d : Nat} {x0 : Nat} {h : XH} {r : Int32 × XH} (L0 : LY h) (hf : b_p_readStructType_115 x0 h = some r) : XR l G xEX7_readStructType (d + 2) (115, [some (.ref x0), none, none, none], [], h) (fun C => ∃ v, xRet xEX7_readStructType C v ∧ (C.2.2.2 = r.2 ∧ v = some (.int r.1)) ∧ LY r.2) := by
  unfold b_p_readStructType_115 at hf
  refine XS.go (s_aloadn rfl rfl rfl) ?_
  by_cases qk1 : x0 < hz h ∧ hk h x0 = 7
  rotate_left
  · rw [if_neg qk1] at hf; cases hf
  rw [if_pos qk1] at hf
  rcases e3 : f_p_advance x0 h with _ | r2
  · rw [e3] at hf; cases hf
  rw [e3] at hf; dsimp only at hf
  refine r_callv rfl xvX7_advance xm7_82 (kf_p_advance (d := d) L0 e3) qk1.1 qk1.2 (by decide) rfl rfl (by omega) (by decide) (Nat.le_of_ble_eq_true rfl) ?_
  rintro _ _ ⟨⟨rfl, rfl⟩, L4⟩
  refine XS.go (s_iconst (v := 1) rfl rfl) ?_
  cases hf
  exact XR.retz rfl rfl (by decide) (fun hret => ⟨_, hret, ⟨rfl, rfl⟩, L4⟩)
def b_p_readStructType_87 (x0 : Nat) (h : XH) : Option (Int32 × XH) := (if x0 < hz h ∧ hk h x0 = 7 then (match f_p_fail x0 5 h with | none => none | some r6 => (if r6.1 = 0 ∨ r6.1 = 1 then (some (r6.1, r6.2)) else none)) else none)
set_option maxRecDepth 20000 in
theorem kb_p_readStructType_87 {l : Launch} {G : XG} {d : Nat} {x0 : Nat} {h : XH} {r : Int32 × XH} (L0 : LY h) (hf : b_p_readStructType_87 x0 h = some r) : XR l G xEX7_readStructType (d + 2) (87, [some (.ref x0), none, none, none], [], h) (fun C => ∃ v, xRet xEX7_readStructType C v ∧ (C.2.2.2 = r.2 ∧ v = some (.int r.1)) ∧ LY r.2) := by
  unfold b_p_readStructType_87 at hf
  refine XS.go (s_aloadn rfl rfl rfl) ?_
  refine XS.go (s_iconst (v := 5) rfl rfl) ?_
  by_cases qk5 : x0 < hz h ∧ hk h x0 = 7
  rotate_left
  · rw [if_neg qk5] at hf; cases hf
  rw [if_pos qk5] at hf
  rcases e7 : f_p_fail x0 5 h with _ | r6
  · rw [e7] at hf; cases hf
  rw [e7] at hf; dsimp only at hf
  refine r_callv rfl xvX7_fail xm7_78 (kf_p_fail (d := d) L0 e7) qk5.1 qk5.2 (by decide) rfl rfl (by omega) (by decide) (Nat.le_of_ble_eq_true rfl) ?_
  rintro _ _ ⟨⟨rfl, rfl⟩, L8⟩
  by_cases qk9 : r6.1 = 0 ∨ r6.1 = 1
  rotate_left
  · rw [if_neg qk9] at hf; cases hf
  rw [if_pos qk9] at hf
  cases hf
  exact XR.retz rfl rfl qk9 (fun hret => ⟨_, hret, ⟨rfl, rfl⟩, L8⟩)
def f_p_readStructType (t : Nat) (a0 : Nat) (a1 : Nat) (h : XH) : Option (Int32 × XH) := (if t < hz h ∧ hk h t = 7 then (if ¬ (hi h t 6) = 4 then (if ¬ (hi h t 6) = 2 then (match f_p_fail t 2 h with | none => none | some r13 => (if r13.1 = 0 ∨ r13.1 = 1 then (some (r13.1, r13.2)) else none)) else (match hr h t 1 with | none => none | some b17 => (match hr h t 0 with | none => none | some b19 => (if b19 < hz h ∧ hk h b19 = 6 then (match f_x_head (hi h t 5) h with | none => none | some r22 => (if t < hz r22.2 ∧ hk r22.2 t = 7 then (match hr r22.2 t 0 with | none => none | some b26 => (if b26 < hz r22.2 ∧ hk r22.2 b26 = 6 then (match f_x_tail (hi r22.2 t 5) r22.2 with | none => none | some r29 => (if b17 < hz r29.2 ∧ hk r29.2 b17 = 9 then (match f_s_named b17 r22.1 r29.1 r29.2 with | none => none | some r33 => (match r33.1 with | none => (b_p_readStructType_87 t r33.2) | some b37 => (if b37 < hz r33.2 ∧ hk r33.2 b37 = 2 then (if a0 < hz r33.2 ∧ hk r33.2 a0 = 2 then (if b37 = a0 then (b_p_readStructType_87 t r33.2) else (if (hi r33.2 b37 0) = 2 then (if a1 < hz r33.2 ∧ hk r33.2 a1 = 3 then (b_p_readStructType_115 t (hsi (hsi r33.2 a1 3 2) a1 4 (hi r33.2 b37 1))) else none) else (b_p_readStructType_87 t r33.2))) else none) else none))) else none)) else none)) else none)) else none)))) else (if a1 < hz h ∧ hk h a1 = 3 then (match hr h t 0 with | none => none | some b44 => (if b44 < hz h ∧ hk h b44 = 6 then (match f_x_head (hi h t 5) (hsi h a1 3 0) with | none => none | some r47 => (if a1 < hz r47.2 ∧ hk r47.2 a1 = 3 then (b_p_readStructType_115 t (hsi r47.2 a1 4 (Int64.toInt32 r47.1))) else none)) else none)) else none)) else none)
set_option maxRecDepth 20000 in
theorem kf_p_readStructType {l : Launch} {G : XG} {d : Nat} {t : Nat} {a0 : Nat} {a1 : Nat} {h : XH} {r : Int32 × XH} (L0 : LY h) (hf : f_p_readStructType t a0 a1 h = some r) : XC l G xEX7_readStructType (d + 2) [.ref t, .ref a0, .ref a1] h (fun v h2 => (h2 = r.2 ∧ v = some (.int r.1)) ∧ LY r.2) := by
  refine XC.virt xvX7_readStructType (Nat.le_of_ble_eq_true rfl) ?_
  unfold f_p_readStructType at hf
  refine XS.go (s_aloadn rfl rfl rfl) ?_
  by_cases qk10 : t < hz h ∧ hk h t = 7
  rotate_left
  · rw [if_neg qk10] at hf; cases hf
  rw [if_pos qk10] at hf
  refine XS.go (s_getie rfl xf7_31 qk10.1 qk10.2 (by decide) rfl rfl) ?_
  refine XS.go (s_iconst (v := 4) rfl rfl) ?_
  refine r_icmp_ne (tgt := 32) rfl rfl (fun qc11 => ?_) (fun qc11 => ?_)
  · rw [if_pos qc11] at hf
    refine XS.go (s_aloadn rfl rfl rfl) ?_
    refine XS.go (s_getie rfl xf7_31 qk10.1 qk10.2 (by decide) rfl rfl) ?_
    refine XS.go (s_iconst (v := 2) rfl rfl) ?_
    refine r_icmp_ne (tgt := 109) rfl rfl (fun qc12 => ?_) (fun qc12 => ?_)
    · rw [if_pos qc12] at hf
      refine XS.go (s_aloadn rfl rfl rfl) ?_
      refine XS.go (s_iconst (v := 2) rfl rfl) ?_
      rcases e14 : f_p_fail t 2 h with _ | r13
      · rw [e14] at hf; cases hf
      rw [e14] at hf; dsimp only at hf
      refine r_callv rfl xvX7_fail xm7_78 (kf_p_fail (d := d) L0 e14) qk10.1 qk10.2 (by decide) rfl rfl (by omega) (by decide) (Nat.le_of_ble_eq_true rfl) ?_
      rintro _ _ ⟨⟨rfl, rfl⟩, L15⟩
      by_cases qk16 : r13.1 = 0 ∨ r13.1 = 1
      rotate_left
      · rw [if_neg qk16] at hf; cases hf
      rw [if_pos qk16] at hf
      cases hf
      exact XR.retz rfl rfl qk16 (fun hret => ⟨_, hret, ⟨rfl, rfl⟩, L15⟩)
    · rw [if_neg qc12] at hf
      refine XS.go (s_aloadn rfl rfl rfl) ?_
      rcases qr18 : hr h t 1 with _ | b17
      · rw [qr18] at hf; cases hf
      rw [qr18] at hf; dsimp only at hf
      refine XS.go (s_getr rfl xf7_44 qk10.1 qk10.2 (by decide) rfl qr18) ?_
      refine XS.go (s_aloadn rfl rfl rfl) ?_
      rcases qr20 : hr h t 0 with _ | b19
      · rw [qr20] at hf; cases hf
      rw [qr20] at hf; dsimp only at hf
      refine XS.go (s_getr rfl xf7_40 qk10.1 qk10.2 (by decide) rfl qr20) ?_
      refine XS.go (s_aloadn rfl rfl rfl) ?_
      refine XS.go (s_getie rfl xf7_26 qk10.1 qk10.2 (by decide) rfl rfl) ?_
      by_cases qk21 : b19 < hz h ∧ hk h b19 = 6
      rotate_left
      · rw [if_neg qk21] at hf; cases hf
      rw [if_pos qk21] at hf
      rcases e23 : f_x_head (hi h t 5) h with _ | r22
      · rw [e23] at hf; cases hf
      rw [e23] at hf; dsimp only at hf
      refine r_callv rfl xvX6_head xm7_109 (kf_x_head (d := d) L0 e23) qk21.1 qk21.2 (by decide) rfl rfl (by omega) (by decide) (Nat.le_of_ble_eq_true rfl) ?_
      rintro _ _ ⟨⟨rfl, rfl⟩, L24⟩
      refine XS.go (s_aloadn rfl rfl rfl) ?_
      by_cases qk25 : t < hz r22.2 ∧ hk r22.2 t = 7
      rotate_left
      · rw [if_neg qk25] at hf; cases hf
      rw [if_pos qk25] at hf
      rcases qr27 : hr r22.2 t 0 with _ | b26
      · rw [qr27] at hf; cases hf
      rw [qr27] at hf; dsimp only at hf
      refine XS.go (s_getr rfl xf7_40 qk25.1 qk25.2 (by decide) rfl qr27) ?_
      refine XS.go (s_aloadn rfl rfl rfl) ?_
      refine XS.go (s_getie rfl xf7_26 qk25.1 qk25.2 (by decide) rfl rfl) ?_
      by_cases qk28 : b26 < hz r22.2 ∧ hk r22.2 b26 = 6
      rotate_left
      · rw [if_neg qk28] at hf; cases hf
      rw [if_pos qk28] at hf
      rcases e30 : f_x_tail (hi r22.2 t 5) r22.2 with _ | r29
      · rw [e30] at hf; cases hf
      rw [e30] at hf; dsimp only at hf
      refine r_callv rfl xvX6_tail xm7_113 (kf_x_tail (d := d) L24 e30) qk28.1 qk28.2 (by decide) rfl rfl (by omega) (by decide) (Nat.le_of_ble_eq_true rfl) ?_
      rintro _ _ ⟨⟨rfl, rfl⟩, L31⟩
      by_cases qk32 : b17 < hz r29.2 ∧ hk r29.2 b17 = 9
      rotate_left
      · rw [if_neg qk32] at hf; cases hf
      rw [if_pos qk32] at hf
      rcases e34 : f_s_named b17 r22.1 r29.1 r29.2 with _ | r33
      · rw [e34] at hf; cases hf
      rw [e34] at hf; dsimp only at hf
      refine r_callv rfl xvX9_named xm7_116 (kf_s_named (d := d) L31 e34) qk32.1 qk32.2 (by decide) rfl rfl (by omega) (by decide) (Nat.le_of_ble_eq_true rfl) ?_
      rintro _ _ ⟨⟨rfl, rfl⟩, L35⟩
      refine XS.go (s_astorenO rfl rfl (Nat.le_of_ble_eq_true rfl)) ?_
      refine XS.go (s_aloadnO rfl rfl rfl) ?_
      refine r_ifnull (tgt := 87) rfl rfl (fun qn36 => ?_) (fun b37 qn36 => ?_)
      · rw [qn36] at hf; dsimp only at hf; try rw [qn36]
        exact XR.forget (L2 := [some (.ref t), none, none, none]) ⟨rfl, trivial⟩ (kb_p_readStructType_87 L35 hf)
      · rw [qn36] at hf; dsimp only at hf; try rw [qn36]
        refine XS.go (s_aloadn rfl rfl rfl) ?_
        refine XS.go (s_aloadn rfl rfl rfl) ?_
        by_cases qk38 : b37 < hz r33.2 ∧ hk r33.2 b37 = 2
        rotate_left
        · rw [if_neg qk38] at hf; cases hf
        rw [if_pos qk38] at hf
        by_cases qk39 : a0 < hz r33.2 ∧ hk r33.2 a0 = 2
        rotate_left
        · rw [if_neg qk39] at hf; cases hf
        rw [if_pos qk39] at hf
        refine r_acmp_eq (tgt := 87) rfl rfl (Nat.lt_of_lt_of_le qk38.1 (Nat.le_trans L35.2.1 (by decide))) (Nat.lt_of_lt_of_le qk39.1 (Nat.le_trans L35.2.1 (by decide))) (fun qc40 => ?_) (fun qc40 => ?_)
        · rw [if_pos qc40] at hf
          exact XR.forget (L2 := [some (.ref t), none, none, none]) ⟨rfl, trivial⟩ (kb_p_readStructType_87 L35 hf)
        · rw [if_neg qc40] at hf
          refine XS.go (s_aloadn rfl rfl rfl) ?_
          refine XS.go (s_getie rfl xf7_161 qk38.1 qk38.2 (by decide) rfl rfl) ?_
          refine XS.go (s_iconst (v := 2) rfl rfl) ?_
          refine r_icmp_eq (tgt := 93) rfl rfl (fun qc41 => ?_) (fun qc41 => ?_)
          · rw [if_pos qc41] at hf
            refine XS.go (s_aloadn rfl rfl rfl) ?_
            refine XS.go (s_iconst (v := 2) rfl rfl) ?_
            by_cases qk42 : a1 < hz r33.2 ∧ hk r33.2 a1 = 3
            rotate_left
            · rw [if_neg qk42] at hf; cases hf
            rw [if_pos qk42] at hf
            refine XS.go (s_puti rfl xf7_158 qk42.1 qk42.2 (by decide) rfl (Or.inl rfl)) ?_
            refine XS.go (s_aloadn rfl rfl rfl) ?_
            refine XS.go (s_aloadn rfl rfl rfl) ?_
            refine XS.go (s_getie rfl xf7_162 (by simp only [hz_hsi, hk_hsi, hz_hsj, hk_hsj]; exact qk38.1) (by simp only [hz_hsi, hk_hsi, hz_hsj, hk_hsj]; exact qk38.2) (by decide) rfl (hi_hsi_nk (by decide))) ?_
            refine XS.go (s_puti rfl xf7_69 (by simp only [hz_hsi, hk_hsi, hz_hsj, hk_hsj]; exact qk42.1) (by simp only [hz_hsi, hk_hsi, hz_hsj, hk_hsj]; exact qk42.2) (by decide) rfl (Or.inl rfl)) ?_
            refine XS.go (s_goto (tgt := 115) rfl rfl) ?_
            exact XR.forget (L2 := [some (.ref t), none, none, none]) ⟨rfl, trivial⟩ (kb_p_readStructType_115 (by simp only [LY_si, LY_sj]; exact L35) hf)
          · rw [if_neg qc41] at hf
            exact XR.forget (L2 := [some (.ref t), none, none, none]) ⟨rfl, trivial⟩ (kb_p_readStructType_87 L35 hf)
  · rw [if_neg qc11] at hf
    refine XS.go (s_aloadn rfl rfl rfl) ?_
    refine XS.go (s_iconst (v := 0) rfl rfl) ?_
    by_cases qk43 : a1 < hz h ∧ hk h a1 = 3
    rotate_left
    · rw [if_neg qk43] at hf; cases hf
    rw [if_pos qk43] at hf
    refine XS.go (s_puti rfl xf7_158 qk43.1 qk43.2 (by decide) rfl (Or.inl rfl)) ?_
    refine XS.go (s_aloadn rfl rfl rfl) ?_
    refine XS.go (s_aloadn rfl rfl rfl) ?_
    rcases qr45 : hr h t 0 with _ | b44
    · rw [qr45] at hf; cases hf
    rw [qr45] at hf; dsimp only at hf
    refine XS.go (s_getr rfl xf7_40 (by simp only [hz_hsi, hk_hsi, hz_hsj, hk_hsj]; exact qk10.1) (by simp only [hz_hsi, hk_hsi, hz_hsj, hk_hsj]; exact qk10.2) (by decide) rfl (by simp only [hr_hsi, hr_hsj]; exact qr45)) ?_
    refine XS.go (s_aloadn rfl rfl rfl) ?_
    refine XS.go (s_getie rfl xf7_26 (by simp only [hz_hsi, hk_hsi, hz_hsj, hk_hsj]; exact qk10.1) (by simp only [hz_hsi, hk_hsi, hz_hsj, hk_hsj]; exact qk10.2) (by decide) rfl (hi_hsi_nk (by decide))) ?_
    by_cases qk46 : b44 < hz h ∧ hk h b44 = 6
    rotate_left
    · rw [if_neg qk46] at hf; cases hf
    rw [if_pos qk46] at hf
    rcases e48 : f_x_head (hi h t 5) (hsi h a1 3 0) with _ | r47
    · rw [e48] at hf; cases hf
    rw [e48] at hf; dsimp only at hf
    refine r_callv rfl xvX6_head xm7_109 (kf_x_head (d := d) (by simp only [LY_si, LY_sj]; exact L0) e48) (by simp only [hz_hsi, hk_hsi, hz_hsj, hk_hsj]; exact qk46.1) (by simp only [hz_hsi, hk_hsi, hz_hsj, hk_hsj]; exact qk46.2) (by decide) rfl rfl (by omega) (by decide) (Nat.le_of_ble_eq_true rfl) ?_
    rintro _ _ ⟨⟨rfl, rfl⟩, L49⟩
    refine XS.go (s_l2i rfl) ?_
    by_cases qk50 : a1 < hz r47.2 ∧ hk r47.2 a1 = 3
    rotate_left
    · rw [if_neg qk50] at hf; cases hf
    rw [if_pos qk50] at hf
    refine XS.go (s_puti rfl xf7_69 qk50.1 qk50.2 (by decide) rfl (Or.inl rfl)) ?_
    refine XS.go (s_goto (tgt := 115) rfl rfl) ?_
    exact XR.forget (L2 := [some (.ref t), none, none, none]) ⟨rfl, trivial⟩ (kb_p_readStructType_115 (by simp only [LY_si, LY_sj]; exact L49) hf)
def f_p_readStructField (t : Nat) (a0 : Nat) (a1 : Nat) (h : XH) : Option (Int32 × XH) := (if t < hz h ∧ hk h t = 7 then (match f_p_expect t 58 h with | none => none | some r2 => (if r2.1 = 0 then (some (0, r2.2)) else (if t < hz r2.2 ∧ hk r2.2 t = 7 then (match f_p_readStructType t a0 a1 r2.2 with | none => none | some r7 => (if r7.1 = 0 then (some (0, r7.2)) else (if t < hz r7.2 ∧ hk r7.2 t = 7 then (match f_p_expect t 59 r7.2 with | none => none | some r12 => (if r12.1 = 0 then (some (0, r12.2)) else (some (1, r12.2)))) else none))) else none))) else none)
set_option maxRecDepth 20000 in
theorem kf_p_readStructField {l : Launch} {G : XG} {d : Nat} {t : Nat} {a0 : Nat} {a1 : Nat} {h : XH} {r : Int32 × XH} (L0 : LY h) (hf : f_p_readStructField t a0 a1 h = some r) : XC l G xEX7_readStructField (d + 3) [.ref t, .ref a0, .ref a1] h (fun v h2 => (h2 = r.2 ∧ v = some (.int r.1)) ∧ LY r.2) := by
  refine XC.virt xvX7_readStructField (Nat.le_of_ble_eq_true rfl) ?_
  unfold f_p_readStructField at hf
  refine XS.go (s_aloadn rfl rfl rfl) ?_
  refine XS.go (s_ifnull_r rfl) ?_
  refine XS.go (s_aloadn rfl rfl rfl) ?_
  refine XS.go (s_bipush (v := 58) rfl rfl) ?_
  by_cases qk1 : t < hz h ∧ hk h t = 7
  rotate_left
  · rw [if_neg qk1] at hf; cases hf
  rw [if_pos qk1] at hf
  rcases e3 : f_p_expect t 58 h with _ | r2
  · rw [e3] at hf; cases hf
  rw [e3] at hf; dsimp only at hf
  refine r_callv rfl xvX7_expect xm7_134 (kf_p_expect (d := d) L0 e3) qk1.1 qk1.2 (by decide) rfl rfl (by omega) (by decide) (Nat.le_of_ble_eq_true rfl) ?_
  rintro _ _ ⟨⟨rfl, rfl⟩, L4⟩
  refine r_if_eq (tgt := 35) rfl rfl (fun qc5 => ?_) (fun qc5 => ?_)
  · rw [if_pos qc5] at hf
    refine XS.go (s_iconst (v := 0) rfl rfl) ?_
    cases hf
    exact XR.retz rfl rfl (by decide) (fun hret => ⟨_, hret, ⟨rfl, rfl⟩, L4⟩)
  · rw [if_neg qc5] at hf
    refine XS.go (s_aloadn rfl rfl rfl) ?_
    refine XS.go (s_aloadn rfl rfl rfl) ?_
    refine XS.go (s_aloadn rfl rfl rfl) ?_
    by_cases qk6 : t < hz r2.2 ∧ hk r2.2 t = 7
    rotate_left
    · rw [if_neg qk6] at hf; cases hf
    rw [if_pos qk6] at hf
    rcases e8 : f_p_readStructType t a0 a1 r2.2 with _ | r7
    · rw [e8] at hf; cases hf
    rw [e8] at hf; dsimp only at hf
    refine r_callv rfl xvX7_readStructType xm7_155 (kf_p_readStructType (d := d) L4 e8) qk6.1 qk6.2 (by decide) rfl rfl (by omega) (by decide) (Nat.le_of_ble_eq_true rfl) ?_
    rintro _ _ ⟨⟨rfl, rfl⟩, L9⟩
    refine r_if_eq (tgt := 35) rfl rfl (fun qc10 => ?_) (fun qc10 => ?_)
    · rw [if_pos qc10] at hf
      refine XS.go (s_iconst (v := 0) rfl rfl) ?_
      cases hf
      exact XR.retz rfl rfl (by decide) (fun hret => ⟨_, hret, ⟨rfl, rfl⟩, L9⟩)
    · rw [if_neg qc10] at hf
      refine XS.go (s_aloadn rfl rfl rfl) ?_
      refine XS.go (s_bipush (v := 59) rfl rfl) ?_
      by_cases qk11 : t < hz r7.2 ∧ hk r7.2 t = 7
      rotate_left
      · rw [if_neg qk11] at hf; cases hf
      rw [if_pos qk11] at hf
      rcases e13 : f_p_expect t 59 r7.2 with _ | r12
      · rw [e13] at hf; cases hf
      rw [e13] at hf; dsimp only at hf
      refine r_callv rfl xvX7_expect xm7_134 (kf_p_expect (d := d) L9 e13) qk11.1 qk11.2 (by decide) rfl rfl (by omega) (by decide) (Nat.le_of_ble_eq_true rfl) ?_
      rintro _ _ ⟨⟨rfl, rfl⟩, L14⟩
      refine r_if_eq (tgt := 35) rfl rfl (fun qc15 => ?_) (fun qc15 => ?_)
      · rw [if_pos qc15] at hf
        refine XS.go (s_iconst (v := 0) rfl rfl) ?_
        cases hf
        exact XR.retz rfl rfl (by decide) (fun hret => ⟨_, hret, ⟨rfl, rfl⟩, L14⟩)
      · rw [if_neg qc15] at hf
        refine XS.go (s_iconst (v := 1) rfl rfl) ?_
        refine XS.go (s_goto (tgt := 36) rfl rfl) ?_
        cases hf
        exact XR.retz rfl rfl (by decide) (fun hret => ⟨_, hret, ⟨rfl, rfl⟩, L14⟩)
def b_p_readStruct_67 (x0 : Nat) (x1 : Nat) (h : XH) : Option (Int32 × XH) := (if x0 < hz h ∧ hk h x0 = 7 then (match f_p_layOut x0 x1 h with | none => none | some r2 => (if x1 < hz r2.2 ∧ hk r2.2 x1 = 2 then (if (hi r2.2 x1 6) ≤ 128 then (if x0 < hz r2.2 ∧ hk r2.2 x0 = 7 then (match f_p_findLeaves x0 x1 r2.2 with | none => none | some r8 => (if x0 < hz r8.2 ∧ hk r8.2 x0 = 7 then (match f_p_expect x0 125 r8.2 with | none => none | some r12 => (if r12.1 = 0 ∨ r12.1 = 1 then (some (r12.1, r12.2)) else none)) else none)) else none) else (if x0 < hz r2.2 ∧ hk r2.2 x0 = 7 then (match f_p_fail x0 8 r2.2 with | none => none | some r17 => (if r17.1 = 0 ∨ r17.1 = 1 then (some (r17.1, r17.2)) else none)) else none)) else none)) else none)
set_option maxRecDepth 20000 in
theorem kb_p_readStruct_67 {l : Launch} {G : XG} {d : Nat} {x0 : Nat} {x1 : Nat} {h : XH} {r : Int32 × XH} (L0 : LY h) (hf : b_p_readStruct_67 x0 x1 h = some r) : XR l G xEX7_readStruct (d + 4) (67, [some (.ref x0), some (.ref x1), none], [], h) (fun C => ∃ v, xRet xEX7_readStruct C v ∧ (C.2.2.2 = r.2 ∧ v = some (.int r.1)) ∧ LY r.2) := by
  unfold b_p_readStruct_67 at hf
  refine XS.go (s_aloadn rfl rfl rfl) ?_
  refine XS.go (s_aloadn rfl rfl rfl) ?_
  by_cases qk1 : x0 < hz h ∧ hk h x0 = 7
  rotate_left
  · rw [if_neg qk1] at hf; cases hf
  rw [if_pos qk1] at hf
  rcases e3 : f_p_layOut x0 x1 h with _ | r2
  · rw [e3] at hf; cases hf
  rw [e3] at hf; dsimp only at hf
  refine r_callv rfl xvX7_layOut xm7_145 (kf_p_layOut (d := d) L0 e3) qk1.1 qk1.2 (by decide) rfl rfl (by omega) (by decide) (Nat.le_of_ble_eq_true rfl) ?_
  rintro _ _ ⟨⟨rfl, rfl⟩, L4⟩
  refine XS.go (s_aloadn rfl rfl rfl) ?_
  by_cases qk5 : x1 < hz r2.2 ∧ hk r2.2 x1 = 2
  rotate_left
  · rw [if_neg qk5] at hf; cases hf
  rw [if_pos qk5] at hf
  refine XS.go (s_getie rfl xf7_149 qk5.1 qk5.2 (by decide) rfl rfl) ?_
  refine XS.go (s_sipush (v := 128) rfl rfl) ?_
  refine r_icmp_le (tgt := 89) rfl rfl (fun qc6 => ?_) (fun qc6 => ?_)
  · rw [if_pos qc6] at hf
    refine XS.go (s_aloadn rfl rfl rfl) ?_
    refine XS.go (s_aloadn rfl rfl rfl) ?_
    by_cases qk7 : x0 < hz r2.2 ∧ hk r2.2 x0 = 7
    rotate_left
    · rw [if_neg qk7] at hf; cases hf
    rw [if_pos qk7] at hf
    rcases e9 : f_p_findLeaves x0 x1 r2.2 with _ | r8
    · rw [e9] at hf; cases hf
    rw [e9] at hf; dsimp only at hf
    refine r_callv rfl xvX7_findLeaves xm7_152 (kf_p_findLeaves (d := d) L4 e9) qk7.1 qk7.2 (by decide) rfl rfl (by omega) (by decide) (Nat.le_of_ble_eq_true rfl) ?_
    rintro _ _ ⟨⟨rfl, rfl⟩, L10⟩
    refine XS.go (s_aloadn rfl rfl rfl) ?_
    refine XS.go (s_bipush (v := 125) rfl rfl) ?_
    by_cases qk11 : x0 < hz r8.2 ∧ hk r8.2 x0 = 7
    rotate_left
    · rw [if_neg qk11] at hf; cases hf
    rw [if_pos qk11] at hf
    rcases e13 : f_p_expect x0 125 r8.2 with _ | r12
    · rw [e13] at hf; cases hf
    rw [e13] at hf; dsimp only at hf
    refine r_callv rfl xvX7_expect xm7_134 (kf_p_expect (d := d) L10 e13) qk11.1 qk11.2 (by decide) rfl rfl (by omega) (by decide) (Nat.le_of_ble_eq_true rfl) ?_
    rintro _ _ ⟨⟨rfl, rfl⟩, L14⟩
    by_cases qk15 : r12.1 = 0 ∨ r12.1 = 1
    rotate_left
    · rw [if_neg qk15] at hf; cases hf
    rw [if_pos qk15] at hf
    cases hf
    exact XR.retz rfl rfl qk15 (fun hret => ⟨_, hret, ⟨rfl, rfl⟩, L14⟩)
  · rw [if_neg qc6] at hf
    refine XS.go (s_aloadn rfl rfl rfl) ?_
    refine XS.go (s_bipush (v := 8) rfl rfl) ?_
    by_cases qk16 : x0 < hz r2.2 ∧ hk r2.2 x0 = 7
    rotate_left
    · rw [if_neg qk16] at hf; cases hf
    rw [if_pos qk16] at hf
    rcases e18 : f_p_fail x0 8 r2.2 with _ | r17
    · rw [e18] at hf; cases hf
    rw [e18] at hf; dsimp only at hf
    refine r_callv rfl xvX7_fail xm7_78 (kf_p_fail (d := d) L4 e18) qk16.1 qk16.2 (by decide) rfl rfl (by omega) (by decide) (Nat.le_of_ble_eq_true rfl) ?_
    rintro _ _ ⟨⟨rfl, rfl⟩, L19⟩
    by_cases qk20 : r17.1 = 0 ∨ r17.1 = 1
    rotate_left
    · rw [if_neg qk20] at hf; cases hf
    rw [if_pos qk20] at hf
    cases hf
    exact XR.retz rfl rfl qk20 (fun hret => ⟨_, hret, ⟨rfl, rfl⟩, L19⟩)
def s_p_readStruct_30 (K30 : Nat → Nat → Int32 → XH → Option (Int32 × XH)) (x0 : Nat) (x1 : Nat) (x2 : Int32) (h : XH) : Option (Int32 × XH) := (if x0 < hz h ∧ hk h x0 = 7 then (if (hi h x0 6) = 125 then (b_p_readStruct_67 x0 x1 h) else (if 4000 < x2 then (b_p_readStruct_67 x0 x1 h) else (match f_p_newField x0 x1 h with | none => none | some r24 => (if x0 < hz r24.2 ∧ hk r24.2 x0 = 7 then (match r24.1 with | none => none | some b28 => (match f_p_readStructField x0 x1 b28 r24.2 with | none => none | some r30 => (if ¬ r30.1 = 0 then (K30 x0 x1 (x2 + 1) r30.2) else (some (0, r30.2))))) else none)))) else none)
set_option maxRecDepth 20000 in
theorem ks_p_readStruct_30 {l : Launch} {G : XG} {d : Nat} {K30 : Nat → Nat → Int32 → XH → Option (Int32 × XH)} {x0 : Nat} {x1 : Nat} {x2 : Int32} {h : XH} {r : Int32 × XH} (hK30 : ∀ (x0 : Nat) (x1 : Nat) (x2 : Int32) (h : XH), LY h → K30 x0 x1 x2 h = some r → XR l G xEX7_readStruct (d + 4) (30, [some (.ref x0), some (.ref x1), some (.int x2)], [], h) (fun C => ∃ v, xRet xEX7_readStruct C v ∧ (C.2.2.2 = r.2 ∧ v = some (.int r.1)) ∧ LY r.2)) (L0 : LY h) (hf : s_p_readStruct_30 K30 x0 x1 x2 h = some r) : XR l G xEX7_readStruct (d + 4) (30, [some (.ref x0), some (.ref x1), some (.int x2)], [], h) (fun C => ∃ v, xRet xEX7_readStruct C v ∧ (C.2.2.2 = r.2 ∧ v = some (.int r.1)) ∧ LY r.2) := by
  unfold s_p_readStruct_30 at hf
  refine XS.go (s_aloadn rfl rfl rfl) ?_
  by_cases qk21 : x0 < hz h ∧ hk h x0 = 7
  rotate_left
  · rw [if_neg qk21] at hf; cases hf
  rw [if_pos qk21] at hf
  refine XS.go (s_getie rfl xf7_31 qk21.1 qk21.2 (by decide) rfl rfl) ?_
  refine XS.go (s_bipush (v := 125) rfl rfl) ?_
  refine r_icmp_eq (tgt := 67) rfl rfl (fun qc22 => ?_) (fun qc22 => ?_)
  · rw [if_pos qc22] at hf
    exact XR.forget (L2 := [some (.ref x0), some (.ref x1), none]) ⟨rfl, ⟨rfl, trivial⟩⟩ (kb_p_readStruct_67 L0 hf)
  · rw [if_neg qc22] at hf
    refine XS.go (s_iloadn rfl rfl rfl) ?_
    refine XS.go (s_sipush (v := 4000) rfl rfl) ?_
    refine r_icmp_gt (tgt := 67) rfl rfl (fun qc23 => ?_) (fun qc23 => ?_)
    · rw [if_pos qc23] at hf
      exact XR.forget (L2 := [some (.ref x0), some (.ref x1), none]) ⟨rfl, ⟨rfl, trivial⟩⟩ (kb_p_readStruct_67 L0 hf)
    · rw [if_neg qc23] at hf
      refine XS.go (s_aloadn rfl rfl rfl) ?_
      refine XS.go (s_aloadn rfl rfl rfl) ?_
      refine XS.go (s_aloadn rfl rfl rfl) ?_
      refine XS.go (s_aloadn rfl rfl rfl) ?_
      rcases e25 : f_p_newField x0 x1 h with _ | r24
      · rw [e25] at hf; cases hf
      rw [e25] at hf; dsimp only at hf
      refine r_callv rfl xvX7_newField xm7_137 (kf_p_newField (d := d) L0 e25) qk21.1 qk21.2 (by decide) rfl rfl (by omega) (by decide) (Nat.le_of_ble_eq_true rfl) ?_
      rintro _ _ ⟨⟨rfl, rfl⟩, L26⟩
      by_cases qk27 : x0 < hz r24.2 ∧ hk r24.2 x0 = 7
      rotate_left
      · rw [if_neg qk27] at hf; cases hf
      rw [if_pos qk27] at hf
      rcases qo29 : r24.1 with _ | b28
      · rw [qo29] at hf; cases hf
      rw [qo29] at hf; dsimp only at hf; try rw [qo29]
      rcases e31 : f_p_readStructField x0 x1 b28 r24.2 with _ | r30
      · rw [e31] at hf; cases hf
      rw [e31] at hf; dsimp only at hf
      refine r_callv rfl xvX7_readStructField xm7_141 (kf_p_readStructField (d := d) L26 e31) qk27.1 qk27.2 (by decide) rfl rfl (by omega) (by decide) (Nat.le_of_ble_eq_true rfl) ?_
      rintro _ _ ⟨⟨rfl, rfl⟩, L32⟩
      refine r_if_ne (tgt := 61) rfl rfl (fun qc33 => ?_) (fun qc33 => ?_)
      · rw [if_pos qc33] at hf
        refine XS.go (s_inc rfl rfl (Nat.le_of_ble_eq_true rfl)) ?_
        refine XS.go (s_goto (tgt := 30) rfl rfl) ?_
        exact XR.forget (L2 := [some (.ref x0), some (.ref x1), some (.int (x2 + 1))]) ⟨rfl, ⟨rfl, ⟨rfl, trivial⟩⟩⟩ (hK30 x0 x1 (x2 + 1) _ L32 hf)
      · rw [if_neg qc33] at hf
        refine XS.go (s_iconst (v := 0) rfl rfl) ?_
        cases hf
        exact XR.retz rfl rfl (by decide) (fun hret => ⟨_, hret, ⟨rfl, rfl⟩, L32⟩)
def b_p_readStruct_30 : Nat → Nat → Nat → Int32 → XH → Option (Int32 × XH)
  | 0, _, _, _, _ => none
  | n + 1, x0, x1, x2, h => s_p_readStruct_30 (b_p_readStruct_30 n) x0 x1 x2 h
theorem kb_p_readStruct_30 {l : Launch} {G : XG} {d : Nat} {n : Nat} {x0 : Nat} {x1 : Nat} {x2 : Int32} {h : XH} {r : Int32 × XH} (L0 : LY h) (hf : b_p_readStruct_30 n x0 x1 x2 h = some r) : XR l G xEX7_readStruct (d + 4) (30, [some (.ref x0), some (.ref x1), some (.int x2)], [], h) (fun C => ∃ v, xRet xEX7_readStruct C v ∧ (C.2.2.2 = r.2 ∧ v = some (.int r.1)) ∧ LY r.2) := by
  induction n generalizing x0 x1 x2 h with
  | zero => cases hf
  | succ n ih => exact ks_p_readStruct_30 (fun x0 x1 x2 h L0 hf => ih (h := h) (x0 := x0) (x1 := x1) (x2 := x2) L0 hf) L0 hf
def f_p_readStruct (t : Nat) (a0 : Nat) (h : XH) : Option (Int32 × XH) := (if t < hz h ∧ hk h t = 7 then (match f_p_expect t 123 h with | none => none | some r35 => (if r35.1 = 0 then (some (0, r35.2)) else (if t < hz r35.2 ∧ hk r35.2 t = 7 then (match f_p_newField t a0 r35.2 with | none => none | some r40 => (if t < hz r40.2 ∧ hk r40.2 t = 7 then (match r40.1 with | none => none | some b44 => (match f_p_readStructField t a0 b44 r40.2 with | none => none | some r46 => (if ¬ r46.1 = 0 then (b_p_readStruct_30 100000 t a0 0 r46.2) else (some (0, r46.2))))) else none)) else none))) else none)
set_option maxRecDepth 20000 in
theorem kf_p_readStruct {l : Launch} {G : XG} {d : Nat} {t : Nat} {a0 : Nat} {h : XH} {r : Int32 × XH} (L0 : LY h) (hf : f_p_readStruct t a0 h = some r) : XC l G xEX7_readStruct (d + 4) [.ref t, .ref a0] h (fun v h2 => (h2 = r.2 ∧ v = some (.int r.1)) ∧ LY r.2) := by
  refine XC.virt xvX7_readStruct (Nat.le_of_ble_eq_true rfl) ?_
  unfold f_p_readStruct at hf
  refine XS.go (s_aloadn rfl rfl rfl) ?_
  refine XS.go (s_ifnull_r rfl) ?_
  refine XS.go (s_aloadn rfl rfl rfl) ?_
  refine XS.go (s_bipush (v := 123) rfl rfl) ?_
  by_cases qk34 : t < hz h ∧ hk h t = 7
  rotate_left
  · rw [if_neg qk34] at hf; cases hf
  rw [if_pos qk34] at hf
  rcases e36 : f_p_expect t 123 h with _ | r35
  · rw [e36] at hf; cases hf
  rw [e36] at hf; dsimp only at hf
  refine r_callv rfl xvX7_expect xm7_134 (kf_p_expect (d := d) L0 e36) qk34.1 qk34.2 (by decide) rfl rfl (by omega) (by decide) (Nat.le_of_ble_eq_true rfl) ?_
  rintro _ _ ⟨⟨rfl, rfl⟩, L37⟩
  refine r_if_eq (tgt := 26) rfl rfl (fun qc38 => ?_) (fun qc38 => ?_)
  · rw [if_pos qc38] at hf
    refine XS.go (s_iconst (v := 0) rfl rfl) ?_
    cases hf
    exact XR.retz rfl rfl (by decide) (fun hret => ⟨_, hret, ⟨rfl, rfl⟩, L37⟩)
  · rw [if_neg qc38] at hf
    refine XS.go (s_aloadn rfl rfl rfl) ?_
    refine XS.go (s_aloadn rfl rfl rfl) ?_
    refine XS.go (s_aloadn rfl rfl rfl) ?_
    refine XS.go (s_aloadn rfl rfl rfl) ?_
    by_cases qk39 : t < hz r35.2 ∧ hk r35.2 t = 7
    rotate_left
    · rw [if_neg qk39] at hf; cases hf
    rw [if_pos qk39] at hf
    rcases e41 : f_p_newField t a0 r35.2 with _ | r40
    · rw [e41] at hf; cases hf
    rw [e41] at hf; dsimp only at hf
    refine r_callv rfl xvX7_newField xm7_137 (kf_p_newField (d := d) L37 e41) qk39.1 qk39.2 (by decide) rfl rfl (by omega) (by decide) (Nat.le_of_ble_eq_true rfl) ?_
    rintro _ _ ⟨⟨rfl, rfl⟩, L42⟩
    by_cases qk43 : t < hz r40.2 ∧ hk r40.2 t = 7
    rotate_left
    · rw [if_neg qk43] at hf; cases hf
    rw [if_pos qk43] at hf
    rcases qo45 : r40.1 with _ | b44
    · rw [qo45] at hf; cases hf
    rw [qo45] at hf; dsimp only at hf; try rw [qo45]
    rcases e47 : f_p_readStructField t a0 b44 r40.2 with _ | r46
    · rw [e47] at hf; cases hf
    rw [e47] at hf; dsimp only at hf
    refine r_callv rfl xvX7_readStructField xm7_141 (kf_p_readStructField (d := d) L42 e47) qk43.1 qk43.2 (by decide) rfl rfl (by omega) (by decide) (Nat.le_of_ble_eq_true rfl) ?_
    rintro _ _ ⟨⟨rfl, rfl⟩, L48⟩
    refine r_if_ne (tgt := 28) rfl rfl (fun qc49 => ?_) (fun qc49 => ?_)
    · rw [if_pos qc49] at hf
      refine XS.go (s_iconst (v := 0) rfl rfl) ?_
      refine XS.go (s_istoren rfl rfl (Nat.le_of_ble_eq_true rfl)) ?_
      exact XR.forget (L2 := [some (.ref t), some (.ref a0), some (.int 0)]) ⟨rfl, ⟨rfl, ⟨rfl, trivial⟩⟩⟩ (kb_p_readStruct_30 L48 hf)
    · rw [if_neg qc49] at hf
      refine XS.go (s_iconst (v := 0) rfl rfl) ?_
      cases hf
      exact XR.retz rfl rfl (by decide) (fun hret => ⟨_, hret, ⟨rfl, rfl⟩, L48⟩)
def f_t_isValue (a0 : Int32) (a1 : Int64) (h : XH) : Option (Int32 × XH) := (match f_t_isScalar a0 h with | none => none | some r1 => (if r1.1 = 0 then (some (0, r1.2)) else (if 0 ≤ a0 ∧ a0 < nI 11 then (if 0 < (lg_cmp (xLO (Int32.toNatClampNeg a0)) a1) then (some (0, r1.2)) else (if 0 < (lg_cmp a1 (xHI (Int32.toNatClampNeg a0))) then (some (0, r1.2)) else (some (1, r1.2)))) else none)))
set_option maxRecDepth 20000 in
theorem kf_t_isValue {l : Launch} {G : XG} {d : Nat} {a0 : Int32} {a1 : Int64} {h : XH} {r : Int32 × XH} (L0 : LY h) (hf : f_t_isValue a0 a1 h = some r) : XC l G xEX11_isValue (d + 1) [.int a0, .long a1] h (fun v h2 => (h2 = r.2 ∧ v = some (.int r.1)) ∧ LY r.2) := by
  refine XC.stat xsX11_isValue (Nat.le_of_ble_eq_true rfl) ?_
  unfold f_t_isValue at hf
  refine XS.go (s_iloadn rfl rfl rfl) ?_
  rcases e2 : f_t_isScalar a0 h with _ | r1
  · rw [e2] at hf; cases hf
  rw [e2] at hf; dsimp only at hf
  refine r_calls rfl xsX11_isScalar xm11_249 (kf_t_isScalar (d := d) L0 e2) rfl rfl (by omega) (by decide) (Nat.le_of_ble_eq_true rfl) ?_
  rintro _ _ ⟨⟨rfl, rfl⟩, L3⟩
  refine r_if_eq (tgt := 31) rfl rfl (fun qc4 => ?_) (fun qc4 => ?_)
  · rw [if_pos qc4] at hf
    refine XS.go (s_iconst (v := 0) rfl rfl) ?_
    cases hf
    exact XR.retz rfl rfl (by decide) (fun hret => ⟨_, hret, ⟨rfl, rfl⟩, L3⟩)
  · rw [if_neg qc4] at hf
    refine XS.go (s_gets2 rfl (lg_3 164 rfl rfl)) ?_
    refine XS.go (s_iloadn rfl rfl rfl) ?_
    by_cases qk5 : 0 ≤ a0 ∧ a0 < nI 11
    rotate_left
    · rw [if_neg qk5] at hf; cases hf
    rw [if_pos qk5] at hf
    refine XS.go (s_ald2 rfl (inLit (rfl : (11 : Nat) = 11) qk5.1 qk5.2 (by decide))) ?_
    refine XS.go (s_lloadn rfl rfl rfl) ?_
    refine XS.go (s_lcmp rfl) ?_
    refine r_if_gt (tgt := 31) rfl rfl (fun qc6 => ?_) (fun qc6 => ?_)
    · rw [if_pos qc6] at hf
      refine XS.go (s_iconst (v := 0) rfl rfl) ?_
      cases hf
      exact XR.retz rfl rfl (by decide) (fun hret => ⟨_, hret, ⟨rfl, rfl⟩, L3⟩)
    · rw [if_neg qc6] at hf
      refine XS.go (s_lloadn rfl rfl rfl) ?_
      refine XS.go (s_gets3 rfl (lg_3 166 rfl rfl)) ?_
      refine XS.go (s_iloadn rfl rfl rfl) ?_
      refine XS.go (s_ald3 rfl (inLit (rfl : (11 : Nat) = 11) qk5.1 qk5.2 (by decide))) ?_
      refine XS.go (s_lcmp rfl) ?_
      refine r_if_gt (tgt := 31) rfl rfl (fun qc7 => ?_) (fun qc7 => ?_)
      · rw [if_pos qc7] at hf
        refine XS.go (s_iconst (v := 0) rfl rfl) ?_
        cases hf
        exact XR.retz rfl rfl (by decide) (fun hret => ⟨_, hret, ⟨rfl, rfl⟩, L3⟩)
      · rw [if_neg qc7] at hf
        refine XS.go (s_iconst (v := 1) rfl rfl) ?_
        refine XS.go (s_goto (tgt := 32) rfl rfl) ?_
        cases hf
        exact XR.retz rfl rfl (by decide) (fun hret => ⟨_, hret, ⟨rfl, rfl⟩, L3⟩)
def b_p_readDefault_106 (x0 : Nat) (x1 : Nat) (x2 : Int64) (h : XH) : Option (Int32 × XH) := (if x1 < hz h ∧ hk h x1 = 3 then (if x0 < hz h ∧ hk h x0 = 7 then (match f_p_advance x0 (hsj h x1 8 x2) with | none => none | some r3 => (some (1, r3.2))) else none) else none)
set_option maxRecDepth 20000 in
theorem kb_p_readDefault_106 {l : Launch} {G : XG} {d : Nat} {x0 : Nat} {x1 : Nat} {x2 : Int64} {h : XH} {r : Int32 × XH} (L0 : LY h) (hf : b_p_readDefault_106 x0 x1 x2 h = some r) : XR l G xEX7_readDefault (d + 2) (106, [some (.ref x0), some (.ref x1), some (.long x2), none], [], h) (fun C => ∃ v, xRet xEX7_readDefault C v ∧ (C.2.2.2 = r.2 ∧ v = some (.int r.1)) ∧ LY r.2) := by
  unfold b_p_readDefault_106 at hf
  refine XS.go (s_aloadn rfl rfl rfl) ?_
  refine XS.go (s_lloadn rfl rfl rfl) ?_
  by_cases qk1 : x1 < hz h ∧ hk h x1 = 3
  rotate_left
  · rw [if_neg qk1] at hf; cases hf
  rw [if_pos qk1] at hf
  refine XS.go (s_putj rfl xf7_233 qk1.1 qk1.2 (by decide) rfl (Or.inl rfl)) ?_
  refine XS.go (s_aloadn rfl rfl rfl) ?_
  by_cases qk2 : x0 < hz h ∧ hk h x0 = 7
  rotate_left
  · rw [if_neg qk2] at hf; cases hf
  rw [if_pos qk2] at hf
  rcases e4 : f_p_advance x0 (hsj h x1 8 x2) with _ | r3
  · rw [e4] at hf; cases hf
  rw [e4] at hf; dsimp only at hf
  refine r_callv rfl xvX7_advance xm7_82 (kf_p_advance (d := d) (by simp only [LY_si, LY_sj]; exact L0) e4) (by simp only [hz_hsi, hk_hsi, hz_hsj, hk_hsj]; exact qk2.1) (by simp only [hz_hsi, hk_hsi, hz_hsj, hk_hsj]; exact qk2.2) (by decide) rfl rfl (by omega) (by decide) (Nat.le_of_ble_eq_true rfl) ?_
  rintro _ _ ⟨⟨rfl, rfl⟩, L5⟩
  refine XS.go (s_iconst (v := 1) rfl rfl) ?_
  cases hf
  exact XR.retz rfl rfl (by decide) (fun hret => ⟨_, hret, ⟨rfl, rfl⟩, L5⟩)
def b_p_readDefault_99 (x0 : Nat) (h : XH) : Option (Int32 × XH) := (if x0 < hz h ∧ hk h x0 = 7 then (match f_p_fail x0 6 h with | none => none | some r7 => (if r7.1 = 0 ∨ r7.1 = 1 then (some (r7.1, r7.2)) else none)) else none)
set_option maxRecDepth 20000 in
theorem kb_p_readDefault_99 {l : Launch} {G : XG} {d : Nat} {x0 : Nat} {h : XH} {r : Int32 × XH} (L0 : LY h) (hf : b_p_readDefault_99 x0 h = some r) : XR l G xEX7_readDefault (d + 2) (99, [some (.ref x0), none, none, none], [], h) (fun C => ∃ v, xRet xEX7_readDefault C v ∧ (C.2.2.2 = r.2 ∧ v = some (.int r.1)) ∧ LY r.2) := by
  unfold b_p_readDefault_99 at hf
  refine XS.go (s_aloadn rfl rfl rfl) ?_
  refine XS.go (s_bipush (v := 6) rfl rfl) ?_
  by_cases qk6 : x0 < hz h ∧ hk h x0 = 7
  rotate_left
  · rw [if_neg qk6] at hf; cases hf
  rw [if_pos qk6] at hf
  rcases e8 : f_p_fail x0 6 h with _ | r7
  · rw [e8] at hf; cases hf
  rw [e8] at hf; dsimp only at hf
  refine r_callv rfl xvX7_fail xm7_78 (kf_p_fail (d := d) L0 e8) qk6.1 qk6.2 (by decide) rfl rfl (by omega) (by decide) (Nat.le_of_ble_eq_true rfl) ?_
  rintro _ _ ⟨⟨rfl, rfl⟩, L9⟩
  by_cases qk10 : r7.1 = 0 ∨ r7.1 = 1
  rotate_left
  · rw [if_neg qk10] at hf; cases hf
  rw [if_pos qk10] at hf
  cases hf
  exact XR.retz rfl rfl qk10 (fun hret => ⟨_, hret, ⟨rfl, rfl⟩, L9⟩)
def b_p_readDefault_36 (x0 : Nat) (h : XH) : Option (Int32 × XH) := (if x0 < hz h ∧ hk h x0 = 7 then (match f_p_fail x0 7 h with | none => none | some r12 => (if r12.1 = 0 ∨ r12.1 = 1 then (some (r12.1, r12.2)) else none)) else none)
set_option maxRecDepth 20000 in
theorem kb_p_readDefault_36 {l : Launch} {G : XG} {d : Nat} {x0 : Nat} {h : XH} {r : Int32 × XH} (L0 : LY h) (hf : b_p_readDefault_36 x0 h = some r) : XR l G xEX7_readDefault (d + 2) (36, [some (.ref x0), none, none, none], [], h) (fun C => ∃ v, xRet xEX7_readDefault C v ∧ (C.2.2.2 = r.2 ∧ v = some (.int r.1)) ∧ LY r.2) := by
  unfold b_p_readDefault_36 at hf
  refine XS.go (s_aloadn rfl rfl rfl) ?_
  refine XS.go (s_bipush (v := 7) rfl rfl) ?_
  by_cases qk11 : x0 < hz h ∧ hk h x0 = 7
  rotate_left
  · rw [if_neg qk11] at hf; cases hf
  rw [if_pos qk11] at hf
  rcases e13 : f_p_fail x0 7 h with _ | r12
  · rw [e13] at hf; cases hf
  rw [e13] at hf; dsimp only at hf
  refine r_callv rfl xvX7_fail xm7_78 (kf_p_fail (d := d) L0 e13) qk11.1 qk11.2 (by decide) rfl rfl (by omega) (by decide) (Nat.le_of_ble_eq_true rfl) ?_
  rintro _ _ ⟨⟨rfl, rfl⟩, L14⟩
  by_cases qk15 : r12.1 = 0 ∨ r12.1 = 1
  rotate_left
  · rw [if_neg qk15] at hf; cases hf
  rw [if_pos qk15] at hf
  cases hf
  exact XR.retz rfl rfl qk15 (fun hret => ⟨_, hret, ⟨rfl, rfl⟩, L14⟩)
def f_p_readDefault (t : Nat) (a0 : Nat) (h : XH) : Option (Int32 × XH) := (if t < hz h ∧ hk h t = 7 then (if (hi h t 6) = 61 then (if a0 < hz h ∧ hk h a0 = 3 then (if ¬ (hi h a0 3) = 0 then (b_p_readDefault_36 t h) else (if (hi h a0 4) = 9 then (b_p_readDefault_36 t h) else (if ¬ (hi h a0 4) = 10 then (match f_p_advance t h with | none => none | some r22 => (if t < hz r22.2 ∧ hk r22.2 t = 7 then (if (hi r22.2 t 6) = 3 then (match hr r22.2 t 0 with | none => none | some b27 => (if b27 < hz r22.2 ∧ hk r22.2 b27 = 6 then (match f_x_head (hi r22.2 t 5) r22.2 with | none => none | some r30 => (if a0 < hz r30.2 ∧ hk r30.2 a0 = 3 then (match f_t_isValue (hi r30.2 a0 4) r30.1 r30.2 with | none => none | some r34 => (if r34.1 = 0 then (b_p_readDefault_99 t r34.2) else (if a0 < hz r34.2 ∧ hk r34.2 a0 = 3 then (if ¬ (hi r34.2 a0 4) = 8 then (b_p_readDefault_106 t a0 r30.1 r34.2) else (if 0 ≤ (lg_cmp r30.1 0) then (b_p_readDefault_106 t a0 r30.1 r34.2) else (b_p_readDefault_99 t r34.2))) else none))) else none)) else none)) else (match f_p_fail t 2 r22.2 with | none => none | some r41 => (if r41.1 = 0 ∨ r41.1 = 1 then (some (r41.1, r41.2)) else none))) else none)) else (b_p_readDefault_36 t h)))) else none) else (some (1, h))) else none)
set_option maxRecDepth 20000 in
theorem kf_p_readDefault {l : Launch} {G : XG} {d : Nat} {t : Nat} {a0 : Nat} {h : XH} {r : Int32 × XH} (L0 : LY h) (hf : f_p_readDefault t a0 h = some r) : XC l G xEX7_readDefault (d + 2) [.ref t, .ref a0] h (fun v h2 => (h2 = r.2 ∧ v = some (.int r.1)) ∧ LY r.2) := by
  refine XC.virt xvX7_readDefault (Nat.le_of_ble_eq_true rfl) ?_
  unfold f_p_readDefault at hf
  refine XS.go (s_aloadn rfl rfl rfl) ?_
  by_cases qk16 : t < hz h ∧ hk h t = 7
  rotate_left
  · rw [if_neg qk16] at hf; cases hf
  rw [if_pos qk16] at hf
  refine XS.go (s_getie rfl xf7_31 qk16.1 qk16.2 (by decide) rfl rfl) ?_
  refine XS.go (s_bipush (v := 61) rfl rfl) ?_
  refine r_icmp_eq (tgt := 11) rfl rfl (fun qc17 => ?_) (fun qc17 => ?_)
  · rw [if_pos qc17] at hf
    refine XS.go (s_aloadn rfl rfl rfl) ?_
    by_cases qk18 : a0 < hz h ∧ hk h a0 = 3
    rotate_left
    · rw [if_neg qk18] at hf; cases hf
    rw [if_pos qk18] at hf
    refine XS.go (s_getie rfl xf7_158 qk18.1 qk18.2 (by decide) rfl rfl) ?_
    refine r_if_ne (tgt := 36) rfl rfl (fun qc19 => ?_) (fun qc19 => ?_)
    · rw [if_pos qc19] at hf
      exact XR.forget (L2 := [some (.ref t), none, none, none]) ⟨rfl, trivial⟩ (kb_p_readDefault_36 L0 hf)
    · rw [if_neg qc19] at hf
      refine XS.go (s_aloadn rfl rfl rfl) ?_
      refine XS.go (s_getie rfl xf7_69 qk18.1 qk18.2 (by decide) rfl rfl) ?_
      refine XS.go (s_bipush (v := 9) rfl rfl) ?_
      refine r_icmp_eq (tgt := 36) rfl rfl (fun qc20 => ?_) (fun qc20 => ?_)
      · rw [if_pos qc20] at hf
        exact XR.forget (L2 := [some (.ref t), none, none, none]) ⟨rfl, trivial⟩ (kb_p_readDefault_36 L0 hf)
      · rw [if_neg qc20] at hf
        refine XS.go (s_aloadn rfl rfl rfl) ?_
        refine XS.go (s_getie rfl xf7_69 qk18.1 qk18.2 (by decide) rfl rfl) ?_
        refine XS.go (s_bipush (v := 10) rfl rfl) ?_
        refine r_icmp_ne (tgt := 43) rfl rfl (fun qc21 => ?_) (fun qc21 => ?_)
        · rw [if_pos qc21] at hf
          refine XS.go (s_aloadn rfl rfl rfl) ?_
          rcases e23 : f_p_advance t h with _ | r22
          · rw [e23] at hf; cases hf
          rw [e23] at hf; dsimp only at hf
          refine r_callv rfl xvX7_advance xm7_82 (kf_p_advance (d := d) L0 e23) qk16.1 qk16.2 (by decide) rfl rfl (by omega) (by decide) (Nat.le_of_ble_eq_true rfl) ?_
          rintro _ _ ⟨⟨rfl, rfl⟩, L24⟩
          refine XS.go (s_aloadn rfl rfl rfl) ?_
          by_cases qk25 : t < hz r22.2 ∧ hk r22.2 t = 7
          rotate_left
          · rw [if_neg qk25] at hf; cases hf
          rw [if_pos qk25] at hf
          refine XS.go (s_getie rfl xf7_31 qk25.1 qk25.2 (by decide) rfl rfl) ?_
          refine XS.go (s_iconst (v := 3) rfl rfl) ?_
          refine r_icmp_eq (tgt := 61) rfl rfl (fun qc26 => ?_) (fun qc26 => ?_)
          · rw [if_pos qc26] at hf
            refine XS.go (s_aloadn rfl rfl rfl) ?_
            rcases qr28 : hr r22.2 t 0 with _ | b27
            · rw [qr28] at hf; cases hf
            rw [qr28] at hf; dsimp only at hf
            refine XS.go (s_getr rfl xf7_40 qk25.1 qk25.2 (by decide) rfl qr28) ?_
            refine XS.go (s_aloadn rfl rfl rfl) ?_
            refine XS.go (s_getie rfl xf7_26 qk25.1 qk25.2 (by decide) rfl rfl) ?_
            by_cases qk29 : b27 < hz r22.2 ∧ hk r22.2 b27 = 6
            rotate_left
            · rw [if_neg qk29] at hf; cases hf
            rw [if_pos qk29] at hf
            rcases e31 : f_x_head (hi r22.2 t 5) r22.2 with _ | r30
            · rw [e31] at hf; cases hf
            rw [e31] at hf; dsimp only at hf
            refine r_callv rfl xvX6_head xm7_109 (kf_x_head (d := d) L24 e31) qk29.1 qk29.2 (by decide) rfl rfl (by omega) (by decide) (Nat.le_of_ble_eq_true rfl) ?_
            rintro _ _ ⟨⟨rfl, rfl⟩, L32⟩
            refine XS.go (s_lstoren rfl rfl (Nat.le_of_ble_eq_true rfl)) ?_
            refine XS.go (s_aloadn rfl rfl rfl) ?_
            by_cases qk33 : a0 < hz r30.2 ∧ hk r30.2 a0 = 3
            rotate_left
            · rw [if_neg qk33] at hf; cases hf
            rw [if_pos qk33] at hf
            refine XS.go (s_getie rfl xf7_69 qk33.1 qk33.2 (by decide) rfl rfl) ?_
            refine XS.go (s_lloadn rfl rfl rfl) ?_
            rcases e35 : f_t_isValue (hi r30.2 a0 4) r30.1 r30.2 with _ | r34
            · rw [e35] at hf; cases hf
            rw [e35] at hf; dsimp only at hf
            refine r_callsn rfl xsX11_isValue (List.mem_of_getElem? (i := 14) rfl) (kf_t_isValue (d := d) L32 e35) rfl rfl (by omega) (by decide) (Nat.le_of_ble_eq_true rfl) ?_
            rintro _ _ ⟨⟨rfl, rfl⟩, L36⟩
            refine r_if_eq (tgt := 99) rfl rfl (fun qc37 => ?_) (fun qc37 => ?_)
            · rw [if_pos qc37] at hf
              exact XR.forget (L2 := [some (.ref t), none, none, none]) ⟨rfl, trivial⟩ (kb_p_readDefault_99 L36 hf)
            · rw [if_neg qc37] at hf
              refine XS.go (s_aloadn rfl rfl rfl) ?_
              by_cases qk38 : a0 < hz r34.2 ∧ hk r34.2 a0 = 3
              rotate_left
              · rw [if_neg qk38] at hf; cases hf
              rw [if_pos qk38] at hf
              refine XS.go (s_getie rfl xf7_69 qk38.1 qk38.2 (by decide) rfl rfl) ?_
              refine XS.go (s_bipush (v := 8) rfl rfl) ?_
              refine r_icmp_ne (tgt := 106) rfl rfl (fun qc39 => ?_) (fun qc39 => ?_)
              · rw [if_pos qc39] at hf
                exact XR.forget (L2 := [some (.ref t), some (.ref a0), some (.long r30.1), none]) ⟨rfl, ⟨rfl, ⟨rfl, trivial⟩⟩⟩ (kb_p_readDefault_106 L36 hf)
              · rw [if_neg qc39] at hf
                refine XS.go (s_lloadn rfl rfl rfl) ?_
                refine XS.go (s_lconst (v := 0) rfl rfl) ?_
                refine XS.go (s_lcmp rfl) ?_
                refine r_if_ge (tgt := 106) rfl rfl (fun qc40 => ?_) (fun qc40 => ?_)
                · rw [if_pos qc40] at hf
                  exact XR.forget (L2 := [some (.ref t), some (.ref a0), some (.long r30.1), none]) ⟨rfl, ⟨rfl, ⟨rfl, trivial⟩⟩⟩ (kb_p_readDefault_106 L36 hf)
                · rw [if_neg qc40] at hf
                  exact XR.forget (L2 := [some (.ref t), none, none, none]) ⟨rfl, trivial⟩ (kb_p_readDefault_99 L36 hf)
          · rw [if_neg qc26] at hf
            refine XS.go (s_aloadn rfl rfl rfl) ?_
            refine XS.go (s_iconst (v := 2) rfl rfl) ?_
            rcases e42 : f_p_fail t 2 r22.2 with _ | r41
            · rw [e42] at hf; cases hf
            rw [e42] at hf; dsimp only at hf
            refine r_callv rfl xvX7_fail xm7_78 (kf_p_fail (d := d) L24 e42) qk25.1 qk25.2 (by decide) rfl rfl (by omega) (by decide) (Nat.le_of_ble_eq_true rfl) ?_
            rintro _ _ ⟨⟨rfl, rfl⟩, L43⟩
            by_cases qk44 : r41.1 = 0 ∨ r41.1 = 1
            rotate_left
            · rw [if_neg qk44] at hf; cases hf
            rw [if_pos qk44] at hf
            cases hf
            exact XR.retz rfl rfl qk44 (fun hret => ⟨_, hret, ⟨rfl, rfl⟩, L43⟩)
        · rw [if_neg qc21] at hf
          exact XR.forget (L2 := [some (.ref t), none, none, none]) ⟨rfl, trivial⟩ (kb_p_readDefault_36 L0 hf)
  · rw [if_neg qc17] at hf
    refine XS.go (s_iconst (v := 1) rfl rfl) ?_
    cases hf
    exact XR.retz rfl rfl (by decide) (fun hret => ⟨_, hret, ⟨rfl, rfl⟩, L0⟩)
def f_p_readRequired (t : Nat) (a0 : Nat) (h : XH) : Option (Int32 × XH) := (if t < hz h ∧ hk h t = 7 then (if (hi h t 6) = 40 then (if a0 < hz h ∧ hk h a0 = 3 then (if ¬ (hi h a0 3) = 0 then (match f_p_advance t h with | none => none | some r5 => (if a0 < hz r5.2 ∧ hk r5.2 a0 = 3 then (if t < hz r5.2 ∧ hk r5.2 t = 7 then (match f_p_expect t 10 (hsi r5.2 a0 7 1) with | none => none | some r10 => (if r10.1 = 0 then (some (0, r10.2)) else (if t < hz r10.2 ∧ hk r10.2 t = 7 then (match f_p_expect t 41 r10.2 with | none => none | some r15 => (if r15.1 = 0 then (some (0, r15.2)) else (some (1, r15.2)))) else none))) else none) else none)) else (match f_p_fail t 7 h with | none => none | some r19 => (if r19.1 = 0 ∨ r19.1 = 1 then (some (r19.1, r19.2)) else none))) else none) else (some (1, h))) else none)
set_option maxRecDepth 20000 in
theorem kf_p_readRequired {l : Launch} {G : XG} {d : Nat} {t : Nat} {a0 : Nat} {h : XH} {r : Int32 × XH} (L0 : LY h) (hf : f_p_readRequired t a0 h = some r) : XC l G xEX7_readRequired (d + 3) [.ref t, .ref a0] h (fun v h2 => (h2 = r.2 ∧ v = some (.int r.1)) ∧ LY r.2) := by
  refine XC.virt xvX7_readRequired (Nat.le_of_ble_eq_true rfl) ?_
  unfold f_p_readRequired at hf
  refine XS.go (s_aloadn rfl rfl rfl) ?_
  by_cases qk1 : t < hz h ∧ hk h t = 7
  rotate_left
  · rw [if_neg qk1] at hf; cases hf
  rw [if_pos qk1] at hf
  refine XS.go (s_getie rfl xf7_31 qk1.1 qk1.2 (by decide) rfl rfl) ?_
  refine XS.go (s_bipush (v := 40) rfl rfl) ?_
  refine r_icmp_eq (tgt := 11) rfl rfl (fun qc2 => ?_) (fun qc2 => ?_)
  · rw [if_pos qc2] at hf
    refine XS.go (s_aloadn rfl rfl rfl) ?_
    by_cases qk3 : a0 < hz h ∧ hk h a0 = 3
    rotate_left
    · rw [if_neg qk3] at hf; cases hf
    rw [if_pos qk3] at hf
    refine XS.go (s_getie rfl xf7_158 qk3.1 qk3.2 (by decide) rfl rfl) ?_
    refine r_if_ne (tgt := 25) rfl rfl (fun qc4 => ?_) (fun qc4 => ?_)
    · rw [if_pos qc4] at hf
      refine XS.go (s_aloadn rfl rfl rfl) ?_
      rcases e6 : f_p_advance t h with _ | r5
      · rw [e6] at hf; cases hf
      rw [e6] at hf; dsimp only at hf
      refine r_callv rfl xvX7_advance xm7_82 (kf_p_advance (d := d) L0 e6) qk1.1 qk1.2 (by decide) rfl rfl (by omega) (by decide) (Nat.le_of_ble_eq_true rfl) ?_
      rintro _ _ ⟨⟨rfl, rfl⟩, L7⟩
      refine XS.go (s_aloadn rfl rfl rfl) ?_
      refine XS.go (s_iconst (v := 1) rfl rfl) ?_
      by_cases qk8 : a0 < hz r5.2 ∧ hk r5.2 a0 = 3
      rotate_left
      · rw [if_neg qk8] at hf; cases hf
      rw [if_pos qk8] at hf
      refine XS.go (s_putz rfl xf7_237 qk8.1 qk8.2 (by decide) rfl (Or.inl rfl) (by decide)) ?_
      refine XS.go (s_aloadn rfl rfl rfl) ?_
      refine XS.go (s_bipush (v := 10) rfl rfl) ?_
      by_cases qk9 : t < hz r5.2 ∧ hk r5.2 t = 7
      rotate_left
      · rw [if_neg qk9] at hf; cases hf
      rw [if_pos qk9] at hf
      rcases e11 : f_p_expect t 10 (hsi r5.2 a0 7 1) with _ | r10
      · rw [e11] at hf; cases hf
      rw [e11] at hf; dsimp only at hf
      refine r_callv rfl xvX7_expect xm7_134 (kf_p_expect (d := d) (by simp only [LY_si, LY_sj]; exact L7) e11) (by simp only [hz_hsi, hk_hsi, hz_hsj, hk_hsj]; exact qk9.1) (by simp only [hz_hsi, hk_hsi, hz_hsj, hk_hsj]; exact qk9.2) (by decide) rfl rfl (by omega) (by decide) (Nat.le_of_ble_eq_true rfl) ?_
      rintro _ _ ⟨⟨rfl, rfl⟩, L12⟩
      refine r_if_eq (tgt := 56) rfl rfl (fun qc13 => ?_) (fun qc13 => ?_)
      · rw [if_pos qc13] at hf
        refine XS.go (s_iconst (v := 0) rfl rfl) ?_
        cases hf
        exact XR.retz rfl rfl (by decide) (fun hret => ⟨_, hret, ⟨rfl, rfl⟩, L12⟩)
      · rw [if_neg qc13] at hf
        refine XS.go (s_aloadn rfl rfl rfl) ?_
        refine XS.go (s_bipush (v := 41) rfl rfl) ?_
        by_cases qk14 : t < hz r10.2 ∧ hk r10.2 t = 7
        rotate_left
        · rw [if_neg qk14] at hf; cases hf
        rw [if_pos qk14] at hf
        rcases e16 : f_p_expect t 41 r10.2 with _ | r15
        · rw [e16] at hf; cases hf
        rw [e16] at hf; dsimp only at hf
        refine r_callv rfl xvX7_expect xm7_134 (kf_p_expect (d := d) L12 e16) qk14.1 qk14.2 (by decide) rfl rfl (by omega) (by decide) (Nat.le_of_ble_eq_true rfl) ?_
        rintro _ _ ⟨⟨rfl, rfl⟩, L17⟩
        refine r_if_eq (tgt := 56) rfl rfl (fun qc18 => ?_) (fun qc18 => ?_)
        · rw [if_pos qc18] at hf
          refine XS.go (s_iconst (v := 0) rfl rfl) ?_
          cases hf
          exact XR.retz rfl rfl (by decide) (fun hret => ⟨_, hret, ⟨rfl, rfl⟩, L17⟩)
        · rw [if_neg qc18] at hf
          refine XS.go (s_iconst (v := 1) rfl rfl) ?_
          refine XS.go (s_goto (tgt := 57) rfl rfl) ?_
          cases hf
          exact XR.retz rfl rfl (by decide) (fun hret => ⟨_, hret, ⟨rfl, rfl⟩, L17⟩)
    · rw [if_neg qc4] at hf
      refine XS.go (s_aloadn rfl rfl rfl) ?_
      refine XS.go (s_bipush (v := 7) rfl rfl) ?_
      rcases e20 : f_p_fail t 7 h with _ | r19
      · rw [e20] at hf; cases hf
      rw [e20] at hf; dsimp only at hf
      refine r_callv rfl xvX7_fail xm7_78 (kf_p_fail (d := d) L0 e20) qk1.1 qk1.2 (by decide) rfl rfl (by omega) (by decide) (Nat.le_of_ble_eq_true rfl) ?_
      rintro _ _ ⟨⟨rfl, rfl⟩, L21⟩
      by_cases qk22 : r19.1 = 0 ∨ r19.1 = 1
      rotate_left
      · rw [if_neg qk22] at hf; cases hf
      rw [if_pos qk22] at hf
      cases hf
      exact XR.retz rfl rfl qk22 (fun hret => ⟨_, hret, ⟨rfl, rfl⟩, L21⟩)
  · rw [if_neg qc2] at hf
    refine XS.go (s_iconst (v := 1) rfl rfl) ?_
    cases hf
    exact XR.retz rfl rfl (by decide) (fun hret => ⟨_, hret, ⟨rfl, rfl⟩, L0⟩)
def f_p_awaitDefinition (t : Nat) (a0 : Nat) (a1 : Int32) (h : XH) : Option (Unit × XH) := (if a0 < hz h ∧ hk h a0 = 3 then (if t < hz h ∧ hk h t = 7 then (if (hi h t 3) < 0 then (some ((), (hsi h a0 2 a1))) else (match hr h t 2 with | none => none | some b4 => (if b4 < hz h ∧ hk h b4 = 104 then (if (nI (hn h b4)) ≤ (hi h t 3) then (some ((), (hsi h a0 2 a1))) else (if 0 ≤ (hi h t 3) ∧ (hi h t 3) < nI (hn h b4) ∧ (hn h b4) < 2 ^ 31 then (if 1317 ≤ b4 ∨ b4 = 627 ∨ b4 = 1243 then (if t < hz (hsr (hsi h a0 2 a1) b4 (Int32.toNatClampNeg (hi h t 3)) (some a0)) ∧ hk (hsr (hsi h a0 2 a1) b4 (Int32.toNatClampNeg (hi h t 3)) (some a0)) t = 7 then (some ((), (hsi (hsr (hsi h a0 2 a1) b4 (Int32.toNatClampNeg (hi h t 3)) (some a0)) t 3 ((hi (hsr (hsi h a0 2 a1) b4 (Int32.toNatClampNeg (hi h t 3)) (some a0)) t 3) + 1)))) else none) else none) else none)) else none))) else none) else none)
set_option maxRecDepth 20000 in
theorem kf_p_awaitDefinition {l : Launch} {G : XG} {d : Nat} {t : Nat} {a0 : Nat} {a1 : Int32} {h : XH} {r : Unit × XH} (L0 : LY h) (hf : f_p_awaitDefinition t a0 a1 h = some r) : XC l G xEX7_awaitDefinition d [.ref t, .ref a0, .int a1] h (fun v h2 => (h2 = r.2 ∧ v = none) ∧ LY r.2) := by
  refine XC.virt xvX7_awaitDefinition (Nat.le_of_ble_eq_true rfl) ?_
  unfold f_p_awaitDefinition at hf
  refine XS.go (s_aloadn rfl rfl rfl) ?_
  refine XS.go (s_iloadn rfl rfl rfl) ?_
  by_cases qk1 : a0 < hz h ∧ hk h a0 = 3
  rotate_left
  · rw [if_neg qk1] at hf; cases hf
  rw [if_pos qk1] at hf
  refine XS.go (s_puti rfl xf7_226 qk1.1 qk1.2 (by decide) rfl (Or.inl rfl)) ?_
  refine XS.go (s_aloadn rfl rfl rfl) ?_
  by_cases qk2 : t < hz h ∧ hk h t = 7
  rotate_left
  · rw [if_neg qk2] at hf; cases hf
  rw [if_pos qk2] at hf
  refine XS.go (s_getie rfl xf7_17 (by simp only [hz_hsi, hk_hsi, hz_hsj, hk_hsj]; exact qk2.1) (by simp only [hz_hsi, hk_hsi, hz_hsj, hk_hsj]; exact qk2.2) (by decide) rfl (hi_hsi_nk (by decide))) ?_
  refine r_if_lt (tgt := 44) rfl rfl (fun qc3 => ?_) (fun qc3 => ?_)
  · rw [if_pos qc3] at hf
    cases hf
    exact XR.retv rfl rfl (fun hret => ⟨_, hret, ⟨rfl, rfl⟩, (by simp only [LY_si, LY_sj]; exact L0)⟩)
  · rw [if_neg qc3] at hf
    refine XS.go (s_aloadn rfl rfl rfl) ?_
    refine XS.go (s_getie rfl xf7_17 (by simp only [hz_hsi, hk_hsi, hz_hsj, hk_hsj]; exact qk2.1) (by simp only [hz_hsi, hk_hsi, hz_hsj, hk_hsj]; exact qk2.2) (by decide) rfl (hi_hsi_nk (by decide))) ?_
    refine XS.go (s_aloadn rfl rfl rfl) ?_
    rcases qr5 : hr h t 2 with _ | b4
    · rw [qr5] at hf; cases hf
    rw [qr5] at hf; dsimp only at hf
    refine XS.go (s_getr rfl xf7_13 (by simp only [hz_hsi, hk_hsi, hz_hsj, hk_hsj]; exact qk2.1) (by simp only [hz_hsi, hk_hsi, hz_hsj, hk_hsj]; exact qk2.2) (by decide) rfl (by simp only [hr_hsi, hr_hsj]; exact qr5)) ?_
    by_cases qk6 : b4 < hz h ∧ hk h b4 = 104
    rotate_left
    · rw [if_neg qk6] at hf; cases hf
    rw [if_pos qk6] at hf
    refine XS.go (s_alene rfl (by simp only [hz_hsi, hk_hsi, hz_hsj, hk_hsj]; exact qk6.1) (by simp only [hz_hsi, hk_hsi, hz_hsj, hk_hsj]; exact qk6.2) (by simp only [hn_hsi, hn_hsj]) (by decide)) ?_
    refine r_icmp_ge (tgt := 44) rfl rfl (fun qc7 => ?_) (fun qc7 => ?_)
    · rw [if_pos qc7] at hf
      cases hf
      exact XR.retv rfl rfl (fun hret => ⟨_, hret, ⟨rfl, rfl⟩, (by simp only [LY_si, LY_sj]; exact L0)⟩)
    · rw [if_neg qc7] at hf
      refine XS.go (s_aloadn rfl rfl rfl) ?_
      refine XS.go (s_getr rfl xf7_13 (by simp only [hz_hsi, hk_hsi, hz_hsj, hk_hsj]; exact qk2.1) (by simp only [hz_hsi, hk_hsi, hz_hsj, hk_hsj]; exact qk2.2) (by decide) rfl (by simp only [hr_hsi, hr_hsj]; exact qr5)) ?_
      refine XS.go (s_aloadn rfl rfl rfl) ?_
      refine XS.go (s_getie rfl xf7_17 (by simp only [hz_hsi, hk_hsi, hz_hsj, hk_hsj]; exact qk2.1) (by simp only [hz_hsi, hk_hsi, hz_hsj, hk_hsj]; exact qk2.2) (by decide) rfl (hi_hsi_nk (by decide))) ?_
      refine XS.go (s_aloadn rfl rfl rfl) ?_
      by_cases qk8 : 0 ≤ (hi h t 3) ∧ (hi h t 3) < nI (hn h b4) ∧ (hn h b4) < 2 ^ 31
      rotate_left
      · rw [if_neg qk8] at hf; cases hf
      rw [if_pos qk8] at hf
      by_cases qk9 : 1317 ≤ b4 ∨ b4 = 627 ∨ b4 = 1243
      rotate_left
      · rw [if_neg qk9] at hf; cases hf
      rw [if_pos qk9] at hf
      have L10 : LY (hsr (hsi h a0 2 a1) b4 (Int32.toNatClampNeg (hi h t 3)) (some a0)) := LY.sra (by simp only [LY_si, LY_sj]; exact L0) qk9
      refine XS.go (s_aast104 rfl (by simp only [hz_hsi, hk_hsi, hz_hsj, hk_hsj]; exact qk6.1) (by simp only [hz_hsi, hk_hsi, hz_hsj, hk_hsj]; exact qk6.2) (inLit (N := hn h b4) (by simp only [hn_hsi, hn_hsj]) qk8.1 qk8.2.1 qk8.2.2) (by simp only [hz_hsi, hk_hsi, hz_hsj, hk_hsj]; exact qk1.1) (by simp only [hz_hsi, hk_hsi, hz_hsj, hk_hsj]; exact qk1.2)) ?_
      refine XS.go (s_aloadn rfl rfl rfl) ?_
      refine XS.go (s_dup rfl rfl) ?_
      by_cases qk11 : t < hz (hsr (hsi h a0 2 a1) b4 (Int32.toNatClampNeg (hi h t 3)) (some a0)) ∧ hk (hsr (hsi h a0 2 a1) b4 (Int32.toNatClampNeg (hi h t 3)) (some a0)) t = 7
      rotate_left
      · rw [if_neg qk11] at hf; cases hf
      rw [if_pos qk11] at hf
      refine XS.go (s_getie rfl xf7_17 qk11.1 qk11.2 (by decide) rfl rfl) ?_
      refine XS.go (s_iconst (v := 1) rfl rfl) ?_
      refine XS.go (s_iadd rfl) ?_
      refine XS.go (s_puti rfl xf7_17 qk11.1 qk11.2 (by decide) rfl (Or.inl rfl)) ?_
      cases hf
      exact XR.retv rfl rfl (fun hret => ⟨_, hret, ⟨rfl, rfl⟩, (by simp only [LY_si, LY_sj]; exact L10)⟩)
def b_p_readType_97 (x0 : Nat) (x1 : Nat) (x2 : Int32) (h : XH) : Option (Int32 × XH) := (if x0 < hz h ∧ hk h x0 = 7 then (match f_p_advance x0 h with | none => none | some r2 => (if ¬ x2 = 0 then (if x1 < hz r2.2 ∧ hk r2.2 x1 = 3 then (if x0 < hz r2.2 ∧ hk r2.2 x0 = 7 then (match f_p_expect x0 93 (hsi (hsi r2.2 x1 5 (hi r2.2 x1 3)) x1 3 5) with | none => none | some r8 => (if r8.1 = 0 ∨ r8.1 = 1 then (some (r8.1, r8.2)) else none)) else none) else none) else (some (1, r2.2)))) else none)
set_option maxRecDepth 20000 in
theorem kb_p_readType_97 {l : Launch} {G : XG} {d : Nat} {x0 : Nat} {x1 : Nat} {x2 : Int32} {h : XH} {r : Int32 × XH} (L0 : LY h) (hf : b_p_readType_97 x0 x1 x2 h = some r) : XR l G xEX7_readType (d + 3) (97, [some (.ref x0), some (.ref x1), some (.int x2)], [], h) (fun C => ∃ v, xRet xEX7_readType C v ∧ (C.2.2.2 = r.2 ∧ v = some (.int r.1)) ∧ LY r.2) := by
  unfold b_p_readType_97 at hf
  refine XS.go (s_aloadn rfl rfl rfl) ?_
  by_cases qk1 : x0 < hz h ∧ hk h x0 = 7
  rotate_left
  · rw [if_neg qk1] at hf; cases hf
  rw [if_pos qk1] at hf
  rcases e3 : f_p_advance x0 h with _ | r2
  · rw [e3] at hf; cases hf
  rw [e3] at hf; dsimp only at hf
  refine r_callv rfl xvX7_advance xm7_82 (kf_p_advance (d := d) L0 e3) qk1.1 qk1.2 (by decide) rfl rfl (by omega) (by decide) (Nat.le_of_ble_eq_true rfl) ?_
  rintro _ _ ⟨⟨rfl, rfl⟩, L4⟩
  refine XS.go (s_iloadn rfl rfl rfl) ?_
  refine r_if_ne (tgt := 107) rfl rfl (fun qc5 => ?_) (fun qc5 => ?_)
  · rw [if_pos qc5] at hf
    refine XS.go (s_aloadn rfl rfl rfl) ?_
    refine XS.go (s_aloadn rfl rfl rfl) ?_
    by_cases qk6 : x1 < hz r2.2 ∧ hk r2.2 x1 = 3
    rotate_left
    · rw [if_neg qk6] at hf; cases hf
    rw [if_pos qk6] at hf
    refine XS.go (s_getie rfl xf7_158 qk6.1 qk6.2 (by decide) rfl rfl) ?_
    refine XS.go (s_puti rfl xf7_223 qk6.1 qk6.2 (by decide) rfl (Or.inl rfl)) ?_
    refine XS.go (s_aloadn rfl rfl rfl) ?_
    refine XS.go (s_iconst (v := 5) rfl rfl) ?_
    refine XS.go (s_puti rfl xf7_158 (by simp only [hz_hsi, hk_hsi, hz_hsj, hk_hsj]; exact qk6.1) (by simp only [hz_hsi, hk_hsi, hz_hsj, hk_hsj]; exact qk6.2) (by decide) rfl (Or.inl rfl)) ?_
    refine XS.go (s_aloadn rfl rfl rfl) ?_
    refine XS.go (s_bipush (v := 93) rfl rfl) ?_
    by_cases qk7 : x0 < hz r2.2 ∧ hk r2.2 x0 = 7
    rotate_left
    · rw [if_neg qk7] at hf; cases hf
    rw [if_pos qk7] at hf
    rcases e9 : f_p_expect x0 93 (hsi (hsi r2.2 x1 5 (hi r2.2 x1 3)) x1 3 5) with _ | r8
    · rw [e9] at hf; cases hf
    rw [e9] at hf; dsimp only at hf
    refine r_callv rfl xvX7_expect xm7_134 (kf_p_expect (d := d) (by simp only [LY_si, LY_sj]; exact L4) e9) (by simp only [hz_hsi, hk_hsi, hz_hsj, hk_hsj]; exact qk7.1) (by simp only [hz_hsi, hk_hsi, hz_hsj, hk_hsj]; exact qk7.2) (by decide) rfl rfl (by omega) (by decide) (Nat.le_of_ble_eq_true rfl) ?_
    rintro _ _ ⟨⟨rfl, rfl⟩, L10⟩
    by_cases qk11 : r8.1 = 0 ∨ r8.1 = 1
    rotate_left
    · rw [if_neg qk11] at hf; cases hf
    rw [if_pos qk11] at hf
    cases hf
    exact XR.retz rfl rfl qk11 (fun hret => ⟨_, hret, ⟨rfl, rfl⟩, L10⟩)
  · rw [if_neg qc5] at hf
    refine XS.go (s_iconst (v := 1) rfl rfl) ?_
    cases hf
    exact XR.retz rfl rfl (by decide) (fun hret => ⟨_, hret, ⟨rfl, rfl⟩, L4⟩)
def b_p_readType_23 (x0 : Nat) (x1 : Nat) (x2 : Int32) (h : XH) : Option (Int32 × XH) := (if x0 < hz h ∧ hk h x0 = 7 then (if ¬ (hi h x0 6) = 4 then (if ¬ (hi h x0 6) = 5 then (if ¬ (hi h x0 6) = 2 then (match f_p_fail x0 2 h with | none => none | some r16 => (if r16.1 = 0 ∨ r16.1 = 1 then (some (r16.1, r16.2)) else none)) else (match f_p_awaitDefinition x0 x1 (hi h x0 5) h with | none => none | some r20 => (b_p_readType_97 x0 x1 x2 r20.2))) else (if x1 < hz h ∧ hk h x1 = 3 then (b_p_readType_97 x0 x1 x2 (hsi h x1 3 1)) else none)) else (if x1 < hz h ∧ hk h x1 = 3 then (match hr h x0 0 with | none => none | some b25 => (if b25 < hz h ∧ hk h b25 = 6 then (match f_x_head (hi h x0 5) (hsi h x1 3 0) with | none => none | some r28 => (if x1 < hz r28.2 ∧ hk r28.2 x1 = 3 then (b_p_readType_97 x0 x1 x2 (hsi r28.2 x1 4 (Int64.toInt32 r28.1))) else none)) else none)) else none)) else none)
set_option maxRecDepth 20000 in
theorem kb_p_readType_23 {l : Launch} {G : XG} {d : Nat} {x0 : Nat} {x1 : Nat} {x2 : Int32} {h : XH} {r : Int32 × XH} (L0 : LY h) (hf : b_p_readType_23 x0 x1 x2 h = some r) : XR l G xEX7_readType (d + 3) (23, [some (.ref x0), some (.ref x1), some (.int x2)], [], h) (fun C => ∃ v, xRet xEX7_readType C v ∧ (C.2.2.2 = r.2 ∧ v = some (.int r.1)) ∧ LY r.2) := by
  unfold b_p_readType_23 at hf
  refine XS.go (s_aloadn rfl rfl rfl) ?_
  by_cases qk12 : x0 < hz h ∧ hk h x0 = 7
  rotate_left
  · rw [if_neg qk12] at hf; cases hf
  rw [if_pos qk12] at hf
  refine XS.go (s_getie rfl xf7_31 qk12.1 qk12.2 (by decide) rfl rfl) ?_
  refine XS.go (s_iconst (v := 4) rfl rfl) ?_
  refine r_icmp_ne (tgt := 55) rfl rfl (fun qc13 => ?_) (fun qc13 => ?_)
  · rw [if_pos qc13] at hf
    refine XS.go (s_aloadn rfl rfl rfl) ?_
    refine XS.go (s_getie rfl xf7_31 qk12.1 qk12.2 (by decide) rfl rfl) ?_
    refine XS.go (s_iconst (v := 5) rfl rfl) ?_
    refine r_icmp_ne (tgt := 71) rfl rfl (fun qc14 => ?_) (fun qc14 => ?_)
    · rw [if_pos qc14] at hf
      refine XS.go (s_aloadn rfl rfl rfl) ?_
      refine XS.go (s_getie rfl xf7_31 qk12.1 qk12.2 (by decide) rfl rfl) ?_
      refine XS.go (s_iconst (v := 2) rfl rfl) ?_
      refine r_icmp_ne (tgt := 91) rfl rfl (fun qc15 => ?_) (fun qc15 => ?_)
      · rw [if_pos qc15] at hf
        refine XS.go (s_aloadn rfl rfl rfl) ?_
        refine XS.go (s_iconst (v := 2) rfl rfl) ?_
        rcases e17 : f_p_fail x0 2 h with _ | r16
        · rw [e17] at hf; cases hf
        rw [e17] at hf; dsimp only at hf
        refine r_callv rfl xvX7_fail xm7_78 (kf_p_fail (d := d) L0 e17) qk12.1 qk12.2 (by decide) rfl rfl (by omega) (by decide) (Nat.le_of_ble_eq_true rfl) ?_
        rintro _ _ ⟨⟨rfl, rfl⟩, L18⟩
        by_cases qk19 : r16.1 = 0 ∨ r16.1 = 1
        rotate_left
        · rw [if_neg qk19] at hf; cases hf
        rw [if_pos qk19] at hf
        cases hf
        exact XR.retz rfl rfl qk19 (fun hret => ⟨_, hret, ⟨rfl, rfl⟩, L18⟩)
      · rw [if_neg qc15] at hf
        refine XS.go (s_aloadn rfl rfl rfl) ?_
        refine XS.go (s_aloadn rfl rfl rfl) ?_
        refine XS.go (s_aloadn rfl rfl rfl) ?_
        refine XS.go (s_getie rfl xf7_26 qk12.1 qk12.2 (by decide) rfl rfl) ?_
        rcases e21 : f_p_awaitDefinition x0 x1 (hi h x0 5) h with _ | r20
        · rw [e21] at hf; cases hf
        rw [e21] at hf; dsimp only at hf
        refine r_callv rfl xvX7_awaitDefinition xm7_219 (kf_p_awaitDefinition (d := d) L0 e21) qk12.1 qk12.2 (by decide) rfl rfl (by omega) (by decide) (Nat.le_of_ble_eq_true rfl) ?_
        rintro _ _ ⟨⟨rfl, rfl⟩, L22⟩
        refine XS.go (s_goto (tgt := 97) rfl rfl) ?_
        exact XR.forget (L2 := [some (.ref x0), some (.ref x1), some (.int x2)]) ⟨rfl, ⟨rfl, ⟨rfl, trivial⟩⟩⟩ (kb_p_readType_97 L22 hf)
    · rw [if_neg qc14] at hf
      refine XS.go (s_aloadn rfl rfl rfl) ?_
      refine XS.go (s_iconst (v := 1) rfl rfl) ?_
      by_cases qk23 : x1 < hz h ∧ hk h x1 = 3
      rotate_left
      · rw [if_neg qk23] at hf; cases hf
      rw [if_pos qk23] at hf
      refine XS.go (s_puti rfl xf7_158 qk23.1 qk23.2 (by decide) rfl (Or.inl rfl)) ?_
      refine XS.go (s_goto (tgt := 97) rfl rfl) ?_
      exact XR.forget (L2 := [some (.ref x0), some (.ref x1), some (.int x2)]) ⟨rfl, ⟨rfl, ⟨rfl, trivial⟩⟩⟩ (kb_p_readType_97 (by simp only [LY_si, LY_sj]; exact L0) hf)
  · rw [if_neg qc13] at hf
    refine XS.go (s_aloadn rfl rfl rfl) ?_
    refine XS.go (s_iconst (v := 0) rfl rfl) ?_
    by_cases qk24 : x1 < hz h ∧ hk h x1 = 3
    rotate_left
    · rw [if_neg qk24] at hf; cases hf
    rw [if_pos qk24] at hf
    refine XS.go (s_puti rfl xf7_158 qk24.1 qk24.2 (by decide) rfl (Or.inl rfl)) ?_
    refine XS.go (s_aloadn rfl rfl rfl) ?_
    refine XS.go (s_aloadn rfl rfl rfl) ?_
    rcases qr26 : hr h x0 0 with _ | b25
    · rw [qr26] at hf; cases hf
    rw [qr26] at hf; dsimp only at hf
    refine XS.go (s_getr rfl xf7_40 (by simp only [hz_hsi, hk_hsi, hz_hsj, hk_hsj]; exact qk12.1) (by simp only [hz_hsi, hk_hsi, hz_hsj, hk_hsj]; exact qk12.2) (by decide) rfl (by simp only [hr_hsi, hr_hsj]; exact qr26)) ?_
    refine XS.go (s_aloadn rfl rfl rfl) ?_
    refine XS.go (s_getie rfl xf7_26 (by simp only [hz_hsi, hk_hsi, hz_hsj, hk_hsj]; exact qk12.1) (by simp only [hz_hsi, hk_hsi, hz_hsj, hk_hsj]; exact qk12.2) (by decide) rfl (hi_hsi_nk (by decide))) ?_
    by_cases qk27 : b25 < hz h ∧ hk h b25 = 6
    rotate_left
    · rw [if_neg qk27] at hf; cases hf
    rw [if_pos qk27] at hf
    rcases e29 : f_x_head (hi h x0 5) (hsi h x1 3 0) with _ | r28
    · rw [e29] at hf; cases hf
    rw [e29] at hf; dsimp only at hf
    refine r_callv rfl xvX6_head xm7_109 (kf_x_head (d := d) (by simp only [LY_si, LY_sj]; exact L0) e29) (by simp only [hz_hsi, hk_hsi, hz_hsj, hk_hsj]; exact qk27.1) (by simp only [hz_hsi, hk_hsi, hz_hsj, hk_hsj]; exact qk27.2) (by decide) rfl rfl (by omega) (by decide) (Nat.le_of_ble_eq_true rfl) ?_
    rintro _ _ ⟨⟨rfl, rfl⟩, L30⟩
    refine XS.go (s_l2i rfl) ?_
    by_cases qk31 : x1 < hz r28.2 ∧ hk r28.2 x1 = 3
    rotate_left
    · rw [if_neg qk31] at hf; cases hf
    rw [if_pos qk31] at hf
    refine XS.go (s_puti rfl xf7_69 qk31.1 qk31.2 (by decide) rfl (Or.inl rfl)) ?_
    refine XS.go (s_goto (tgt := 97) rfl rfl) ?_
    exact XR.forget (L2 := [some (.ref x0), some (.ref x1), some (.int x2)]) ⟨rfl, ⟨rfl, ⟨rfl, trivial⟩⟩⟩ (kb_p_readType_97 (by simp only [LY_si, LY_sj]; exact L30) hf)
def b_p_readType_14 (x0 : Nat) (x1 : Nat) (y0 : Int32) (h : XH) : Option (Int32 × XH) := (if y0 = 0 then (b_p_readType_23 x0 x1 y0 h) else (if x0 < hz h ∧ hk h x0 = 7 then (match f_p_advance x0 h with | none => none | some r34 => (b_p_readType_23 x0 x1 y0 r34.2)) else none))
set_option maxRecDepth 20000 in
theorem kb_p_readType_14 {l : Launch} {G : XG} {d : Nat} {x0 : Nat} {x1 : Nat} {y0 : Int32} {h : XH} {r : Int32 × XH} (L0 : LY h) (hf : b_p_readType_14 x0 x1 y0 h = some r) : XR l G xEX7_readType (d + 3) (14, [some (.ref x0), some (.ref x1), none], [(.int y0)], h) (fun C => ∃ v, xRet xEX7_readType C v ∧ (C.2.2.2 = r.2 ∧ v = some (.int r.1)) ∧ LY r.2) := by
  unfold b_p_readType_14 at hf
  refine XS.go (s_istoren rfl rfl (Nat.le_of_ble_eq_true rfl)) ?_
  refine XS.go (s_iloadn rfl rfl rfl) ?_
  refine r_if_eq (tgt := 23) rfl rfl (fun qc32 => ?_) (fun qc32 => ?_)
  · rw [if_pos qc32] at hf
    exact XR.forget (L2 := [some (.ref x0), some (.ref x1), some (.int y0)]) ⟨rfl, ⟨rfl, ⟨rfl, trivial⟩⟩⟩ (kb_p_readType_23 L0 hf)
  · rw [if_neg qc32] at hf
    refine XS.go (s_aloadn rfl rfl rfl) ?_
    by_cases qk33 : x0 < hz h ∧ hk h x0 = 7
    rotate_left
    · rw [if_neg qk33] at hf; cases hf
    rw [if_pos qk33] at hf
    rcases e35 : f_p_advance x0 h with _ | r34
    · rw [e35] at hf; cases hf
    rw [e35] at hf; dsimp only at hf
    refine r_callv rfl xvX7_advance xm7_82 (kf_p_advance (d := d) L0 e35) qk33.1 qk33.2 (by decide) rfl rfl (by omega) (by decide) (Nat.le_of_ble_eq_true rfl) ?_
    rintro _ _ ⟨⟨rfl, rfl⟩, L36⟩
    exact XR.forget (L2 := [some (.ref x0), some (.ref x1), some (.int y0)]) ⟨rfl, ⟨rfl, ⟨rfl, trivial⟩⟩⟩ (kb_p_readType_23 L36 hf)
def f_p_readType (t : Nat) (a0 : Nat) (h : XH) : Option (Int32 × XH) := (if t < hz h ∧ hk h t = 7 then (if ¬ (hi h t 6) = 91 then (b_p_readType_14 t a0 0 h) else (b_p_readType_14 t a0 1 h)) else none)
set_option maxRecDepth 20000 in
theorem kf_p_readType {l : Launch} {G : XG} {d : Nat} {t : Nat} {a0 : Nat} {h : XH} {r : Int32 × XH} (L0 : LY h) (hf : f_p_readType t a0 h = some r) : XC l G xEX7_readType (d + 3) [.ref t, .ref a0] h (fun v h2 => (h2 = r.2 ∧ v = some (.int r.1)) ∧ LY r.2) := by
  refine XC.virt xvX7_readType (Nat.le_of_ble_eq_true rfl) ?_
  unfold f_p_readType at hf
  refine XS.go (s_aloadn rfl rfl rfl) ?_
  by_cases qk37 : t < hz h ∧ hk h t = 7
  rotate_left
  · rw [if_neg qk37] at hf; cases hf
  rw [if_pos qk37] at hf
  refine XS.go (s_getie rfl xf7_31 qk37.1 qk37.2 (by decide) rfl rfl) ?_
  refine XS.go (s_bipush (v := 91) rfl rfl) ?_
  refine r_icmp_ne (tgt := 13) rfl rfl (fun qc38 => ?_) (fun qc38 => ?_)
  · rw [if_pos qc38] at hf
    refine XS.go (s_iconst (v := 0) rfl rfl) ?_
    exact XR.forget (L2 := [some (.ref t), some (.ref a0), none]) ⟨rfl, ⟨rfl, trivial⟩⟩ (kb_p_readType_14 L0 hf)
  · rw [if_neg qc38] at hf
    refine XS.go (s_iconst (v := 1) rfl rfl) ?_
    refine XS.go (s_goto (tgt := 14) rfl rfl) ?_
    exact XR.forget (L2 := [some (.ref t), some (.ref a0), none]) ⟨rfl, ⟨rfl, trivial⟩⟩ (kb_p_readType_14 L0 hf)
