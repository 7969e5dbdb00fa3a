/-! Methods as functions of the heap -/
def b_p_readTable_93 (x0 : Nat) (h : XH) : Option (Int32 × XH) := (if x0 < hz h ∧ hk h x0 = 7 then (match f_p_expect x0 125 h with | none => none | some r2 => (if r2.1 = 0 ∨ r2.1 = 1 then (some (r2.1, r2.2)) else none)) else none)
set_option maxRecDepth 20000 in
theorem kb_p_readTable_93 {l : Launch} {G : XG} {d : Nat} {x0 : Nat} {h : XH} {r : Int32 × XH} (L0 : LY h) (hf : b_p_readTable_93 x0 h = some r) : XR l G xEX7_readTable (d + 4) (93, [some (.ref x0), none, none, none], [], h) (fun C => ∃ v, xRet xEX7_readTable C v ∧ (C.2.2.2 = r.2 ∧ v = some (.int r.1)) ∧ LY r.2) := by
  unfold b_p_readTable_93 at hf
  refine XS.go (s_aloadn rfl rfl rfl) ?_
  refine XS.go (s_bipush (v := 125) rfl rfl) ?_
  by_cases qk1 : x0 < hz h ∧ hk h x0 = 7
  rotate_left
  · rw [if_neg qk1] at hf; cases hf
  rw [if_pos qk1] at hf
  rcases e3 : f_p_expect x0 125 h with _ | r2
  · rw [e3] at hf; cases hf
  rw [e3] at hf; dsimp only at hf
  refine r_callv rfl xvX7_expect xm7_134 (kf_p_expect (d := d) L0 e3) qk1.1 qk1.2 (by decide) rfl rfl (by omega) (by decide) (Nat.le_of_ble_eq_true rfl) ?_
  rintro _ _ ⟨⟨rfl, rfl⟩, L4⟩
  by_cases qk5 : r2.1 = 0 ∨ r2.1 = 1
  rotate_left
  · rw [if_neg qk5] at hf; cases hf
  rw [if_pos qk5] at hf
  cases hf
  exact XR.retz rfl rfl qk5 (fun hret => ⟨_, hret, ⟨rfl, rfl⟩, L4⟩)
def s_p_readTable_17 (K17 : Nat → Nat → Int32 → XH → Option (Int32 × XH)) (x0 : Nat) (x1 : Nat) (x2 : Int32) (h : XH) : Option (Int32 × XH) := (if x0 < hz h ∧ hk h x0 = 7 then (if (hi h x0 6) = 125 then (b_p_readTable_93 x0 h) else (if 4000 < x2 then (b_p_readTable_93 x0 h) else (match f_p_newField x0 x1 h with | none => none | some r9 => (match r9.1 with | none => (some (0, r9.2)) | some b13 => (if x0 < hz r9.2 ∧ hk r9.2 x0 = 7 then (match f_p_expect x0 58 r9.2 with | none => none | some r15 => (if r15.1 = 0 then (some (0, r15.2)) else (if x0 < hz r15.2 ∧ hk r15.2 x0 = 7 then (match f_p_readType x0 b13 r15.2 with | none => none | some r20 => (if r20.1 = 0 then (some (0, r20.2)) else (if x0 < hz r20.2 ∧ hk r20.2 x0 = 7 then (match f_p_readDefault x0 b13 r20.2 with | none => none | some r25 => (if r25.1 = 0 then (some (0, r25.2)) else (if x0 < hz r25.2 ∧ hk r25.2 x0 = 7 then (match f_p_readRequired x0 b13 r25.2 with | none => none | some r30 => (if r30.1 = 0 then (some (0, r30.2)) else (if x0 < hz r30.2 ∧ hk r30.2 x0 = 7 then (match f_p_expect x0 59 r30.2 with | none => none | some r35 => (if ¬ r35.1 = 0 then (K17 x0 x1 (x2 + 1) r35.2) else (some (0, r35.2)))) else none))) else none))) else none))) else none))) else none))))) else none)
set_option maxRecDepth 20000 in
theorem ks_p_readTable_17 {l : Launch} {G : XG} {d : Nat} {K17 : Nat → Nat → Int32 → XH → Option (Int32 × XH)} {x0 : Nat} {x1 : Nat} {x2 : Int32} {h : XH} {r : Int32 × XH} (hK17 : ∀ (x0 : Nat) (x1 : Nat) (x2 : Int32) (h : XH), LY h → K17 x0 x1 x2 h = some r → XR l G xEX7_readTable (d + 4) (17, [some (.ref x0), some (.ref x1), some (.int x2), none], [], h) (fun C => ∃ v, xRet xEX7_readTable C v ∧ (C.2.2.2 = r.2 ∧ v = some (.int r.1)) ∧ LY r.2)) (L0 : LY h) (hf : s_p_readTable_17 K17 x0 x1 x2 h = some r) : XR l G xEX7_readTable (d + 4) (17, [some (.ref x0), some (.ref x1), some (.int x2), none], [], h) (fun C => ∃ v, xRet xEX7_readTable C v ∧ (C.2.2.2 = r.2 ∧ v = some (.int r.1)) ∧ LY r.2) := by
  unfold s_p_readTable_17 at hf
  refine XS.go (s_aloadn rfl rfl rfl) ?_
  by_cases qk6 : x0 < hz h ∧ hk h x0 = 7
  rotate_left
  · rw [if_neg qk6] at hf; cases hf
  rw [if_pos qk6] at hf
  refine XS.go (s_getie rfl xf7_31 qk6.1 qk6.2 (by decide) rfl rfl) ?_
  refine XS.go (s_bipush (v := 125) rfl rfl) ?_
  refine r_icmp_eq (tgt := 93) rfl rfl (fun qc7 => ?_) (fun qc7 => ?_)
  · rw [if_pos qc7] at hf
    exact XR.forget (L2 := [some (.ref x0), none, none, none]) ⟨rfl, trivial⟩ (kb_p_readTable_93 L0 hf)
  · rw [if_neg qc7] at hf
    refine XS.go (s_iloadn rfl rfl rfl) ?_
    refine XS.go (s_sipush (v := 4000) rfl rfl) ?_
    refine r_icmp_gt (tgt := 93) rfl rfl (fun qc8 => ?_) (fun qc8 => ?_)
    · rw [if_pos qc8] at hf
      exact XR.forget (L2 := [some (.ref x0), none, none, none]) ⟨rfl, trivial⟩ (kb_p_readTable_93 L0 hf)
    · rw [if_neg qc8] at hf
      refine XS.go (s_aloadn rfl rfl rfl) ?_
      refine XS.go (s_aloadn rfl rfl rfl) ?_
      rcases e10 : f_p_newField x0 x1 h with _ | r9
      · rw [e10] at hf; cases hf
      rw [e10] at hf; dsimp only at hf
      refine r_callv rfl xvX7_newField xm7_137 (kf_p_newField (d := d) L0 e10) qk6.1 qk6.2 (by decide) rfl rfl (by omega) (by decide) (Nat.le_of_ble_eq_true rfl) ?_
      rintro _ _ ⟨⟨rfl, rfl⟩, L11⟩
      refine XS.go (s_astorenO rfl rfl (Nat.le_of_ble_eq_true rfl)) ?_
      refine XS.go (s_aloadnO rfl rfl rfl) ?_
      refine r_ifnull (tgt := 85) rfl rfl (fun qn12 => ?_) (fun b13 qn12 => ?_)
      · rw [qn12] at hf; dsimp only at hf; try rw [qn12]
        refine XS.go (s_iconst (v := 0) rfl rfl) ?_
        cases hf
        exact XR.retz rfl rfl (by decide) (fun hret => ⟨_, hret, ⟨rfl, rfl⟩, L11⟩)
      · rw [qn12] at hf; dsimp only at hf; try rw [qn12]
        refine XS.go (s_aloadn rfl rfl rfl) ?_
        refine XS.go (s_bipush (v := 58) rfl rfl) ?_
        by_cases qk14 : x0 < hz r9.2 ∧ hk r9.2 x0 = 7
        rotate_left
        · rw [if_neg qk14] at hf; cases hf
        rw [if_pos qk14] at hf
        rcases e16 : f_p_expect x0 58 r9.2 with _ | r15
        · rw [e16] at hf; cases hf
        rw [e16] at hf; dsimp only at hf
        refine r_callv rfl xvX7_expect xm7_134 (kf_p_expect (d := d) L11 e16) qk14.1 qk14.2 (by decide) rfl rfl (by omega) (by decide) (Nat.le_of_ble_eq_true rfl) ?_
        rintro _ _ ⟨⟨rfl, rfl⟩, L17⟩
        refine r_if_eq (tgt := 85) rfl rfl (fun qc18 => ?_) (fun qc18 => ?_)
        · rw [if_pos qc18] at hf
          refine XS.go (s_iconst (v := 0) rfl rfl) ?_
          cases hf
          exact XR.retz rfl rfl (by decide) (fun hret => ⟨_, hret, ⟨rfl, rfl⟩, L17⟩)
        · rw [if_neg qc18] at hf
          refine XS.go (s_aloadn rfl rfl rfl) ?_
          refine XS.go (s_aloadn rfl rfl rfl) ?_
          by_cases qk19 : x0 < hz r15.2 ∧ hk r15.2 x0 = 7
          rotate_left
          · rw [if_neg qk19] at hf; cases hf
          rw [if_pos qk19] at hf
          rcases e21 : f_p_readType x0 b13 r15.2 with _ | r20
          · rw [e21] at hf; cases hf
          rw [e21] at hf; dsimp only at hf
          refine r_callv rfl xvX7_readType xm7_209 (kf_p_readType (d := d) L17 e21) qk19.1 qk19.2 (by decide) rfl rfl (by omega) (by decide) (Nat.le_of_ble_eq_true rfl) ?_
          rintro _ _ ⟨⟨rfl, rfl⟩, L22⟩
          refine r_if_eq (tgt := 85) rfl rfl (fun qc23 => ?_) (fun qc23 => ?_)
          · rw [if_pos qc23] at hf
            refine XS.go (s_iconst (v := 0) rfl rfl) ?_
            cases hf
            exact XR.retz rfl rfl (by decide) (fun hret => ⟨_, hret, ⟨rfl, rfl⟩, L22⟩)
          · rw [if_neg qc23] at hf
            refine XS.go (s_aloadn rfl rfl rfl) ?_
            refine XS.go (s_aloadn rfl rfl rfl) ?_
            by_cases qk24 : x0 < hz r20.2 ∧ hk r20.2 x0 = 7
            rotate_left
            · rw [if_neg qk24] at hf; cases hf
            rw [if_pos qk24] at hf
            rcases e26 : f_p_readDefault x0 b13 r20.2 with _ | r25
            · rw [e26] at hf; cases hf
            rw [e26] at hf; dsimp only at hf
            refine r_callv rfl xvX7_readDefault xm7_213 (kf_p_readDefault (d := d) L22 e26) qk24.1 qk24.2 (by decide) rfl rfl (by omega) (by decide) (Nat.le_of_ble_eq_true rfl) ?_
            rintro _ _ ⟨⟨rfl, rfl⟩, L27⟩
            refine r_if_eq (tgt := 85) rfl rfl (fun qc28 => ?_) (fun qc28 => ?_)
            · rw [if_pos qc28] at hf
              refine XS.go (s_iconst (v := 0) rfl rfl) ?_
              cases hf
              exact XR.retz rfl rfl (by decide) (fun hret => ⟨_, hret, ⟨rfl, rfl⟩, L27⟩)
            · rw [if_neg qc28] at hf
              refine XS.go (s_aloadn rfl rfl rfl) ?_
              refine XS.go (s_aloadn rfl rfl rfl) ?_
              by_cases qk29 : x0 < hz r25.2 ∧ hk r25.2 x0 = 7
              rotate_left
              · rw [if_neg qk29] at hf; cases hf
              rw [if_pos qk29] at hf
              rcases e31 : f_p_readRequired x0 b13 r25.2 with _ | r30
              · rw [e31] at hf; cases hf
              rw [e31] at hf; dsimp only at hf
              refine r_callv rfl xvX7_readRequired xm7_216 (kf_p_readRequired (d := d) L27 e31) qk29.1 qk29.2 (by decide) rfl rfl (by omega) (by decide) (Nat.le_of_ble_eq_true rfl) ?_
              rintro _ _ ⟨⟨rfl, rfl⟩, L32⟩
              refine r_if_eq (tgt := 85) rfl rfl (fun qc33 => ?_) (fun qc33 => ?_)
              · rw [if_pos qc33] at hf
                refine XS.go (s_iconst (v := 0) rfl rfl) ?_
                cases hf
                exact XR.retz rfl rfl (by decide) (fun hret => ⟨_, hret, ⟨rfl, rfl⟩, L32⟩)
              · rw [if_neg qc33] at hf
                refine XS.go (s_aloadn rfl rfl rfl) ?_
                refine XS.go (s_bipush (v := 59) rfl rfl) ?_
                by_cases qk34 : x0 < hz r30.2 ∧ hk r30.2 x0 = 7
                rotate_left
                · rw [if_neg qk34] at hf; cases hf
                rw [if_pos qk34] at hf
                rcases e36 : f_p_expect x0 59 r30.2 with _ | r35
                · rw [e36] at hf; cases hf
                rw [e36] at hf; dsimp only at hf
                refine r_callv rfl xvX7_expect xm7_134 (kf_p_expect (d := d) L32 e36) qk34.1 qk34.2 (by decide) rfl rfl (by omega) (by decide) (Nat.le_of_ble_eq_true rfl) ?_
                rintro _ _ ⟨⟨rfl, rfl⟩, L37⟩
                refine r_if_ne (tgt := 87) rfl rfl (fun qc38 => ?_) (fun qc38 => ?_)
                · rw [if_pos qc38] at hf
                  refine XS.go (s_inc rfl rfl (Nat.le_of_ble_eq_true rfl)) ?_
                  refine XS.go (s_goto (tgt := 17) rfl rfl) ?_
                  exact XR.forget (L2 := [some (.ref x0), some (.ref x1), some (.int (x2 + 1)), none]) ⟨rfl, ⟨rfl, ⟨rfl, trivial⟩⟩⟩ (hK17 x0 x1 (x2 + 1) _ L37 hf)
                · rw [if_neg qc38] at hf
                  refine XS.go (s_iconst (v := 0) rfl rfl) ?_
                  cases hf
                  exact XR.retz rfl rfl (by decide) (fun hret => ⟨_, hret, ⟨rfl, rfl⟩, L37⟩)
def b_p_readTable_17 : Nat → Nat → Nat → Int32 → XH → Option (Int32 × XH)
  | 0, _, _, _, _ => none
  | n + 1, x0, x1, x2, h => s_p_readTable_17 (b_p_readTable_17 n) x0 x1 x2 h
theorem kb_p_readTable_17 {l : Launch} {G : XG} {d : Nat} {n : Nat} {x0 : Nat} {x1 : Nat} {x2 : Int32} {h : XH} {r : Int32 × XH} (L0 : LY h) (hf : b_p_readTable_17 n x0 x1 x2 h = some r) : XR l G xEX7_readTable (d + 4) (17, [some (.ref x0), some (.ref x1), some (.int x2), none], [], h) (fun C => ∃ v, xRet xEX7_readTable C v ∧ (C.2.2.2 = r.2 ∧ v = some (.int r.1)) ∧ LY r.2) := by
  induction n generalizing x0 x1 x2 h with
  | zero => cases hf
  | succ n ih => exact ks_p_readTable_17 (fun x0 x1 x2 h L0 hf => ih (h := h) (x0 := x0) (x1 := x1) (x2 := x2) L0 hf) L0 hf
def f_p_readTable (t : Nat) (a0 : Nat) (h : XH) : Option (Int32 × XH) := (if t < hz h ∧ hk h t = 7 then (match f_p_expect t 123 h with | none => none | some r40 => (if ¬ r40.1 = 0 then (b_p_readTable_17 100000 t a0 0 r40.2) else (some (0, r40.2)))) else none)
set_option maxRecDepth 20000 in
theorem kf_p_readTable {l : Launch} {G : XG} {d : Nat} {t : Nat} {a0 : Nat} {h : XH} {r : Int32 × XH} (L0 : LY h) (hf : f_p_readTable t a0 h = some r) : XC l G xEX7_readTable (d + 4) [.ref t, .ref a0] h (fun v h2 => (h2 = r.2 ∧ v = some (.int r.1)) ∧ LY r.2) := by
  refine XC.virt xvX7_readTable (Nat.le_of_ble_eq_true rfl) ?_
  unfold f_p_readTable at hf
  refine XS.go (s_aloadn rfl rfl rfl) ?_
  refine XS.go (s_ifnull_r rfl) ?_
  refine XS.go (s_aloadn rfl rfl rfl) ?_
  refine XS.go (s_bipush (v := 123) rfl rfl) ?_
  by_cases qk39 : t < hz h ∧ hk h t = 7
  rotate_left
  · rw [if_neg qk39] at hf; cases hf
  rw [if_pos qk39] at hf
  rcases e41 : f_p_expect t 123 h with _ | r40
  · rw [e41] at hf; cases hf
  rw [e41] at hf; dsimp only at hf
  refine r_callv rfl xvX7_expect xm7_134 (kf_p_expect (d := d) L0 e41) qk39.1 qk39.2 (by decide) rfl rfl (by omega) (by decide) (Nat.le_of_ble_eq_true rfl) ?_
  rintro _ _ ⟨⟨rfl, rfl⟩, L42⟩
  refine r_if_ne (tgt := 15) rfl rfl (fun qc43 => ?_) (fun qc43 => ?_)
  · rw [if_pos qc43] at hf
    refine XS.go (s_iconst (v := 0) rfl rfl) ?_
    refine XS.go (s_istoren rfl rfl (Nat.le_of_ble_eq_true rfl)) ?_
    exact XR.forget (L2 := [some (.ref t), some (.ref a0), some (.int 0), none]) ⟨rfl, ⟨rfl, ⟨rfl, trivial⟩⟩⟩ (kb_p_readTable_17 L42 hf)
  · rw [if_neg qc43] at hf
    refine XS.go (s_iconst (v := 0) rfl rfl) ?_
    cases hf
    exact XR.retz rfl rfl (by decide) (fun hret => ⟨_, hret, ⟨rfl, rfl⟩, L42⟩)
def f_p_readMember (t : Nat) (a0 : Nat) (h : XH) : Option (Int32 × XH) := (if t < hz h ∧ hk h t = 7 then (match f_p_newField t a0 h with | none => none | some r2 => (match r2.1 with | none => (some (0, r2.2)) | some b6 => (if b6 < hz r2.2 ∧ hk r2.2 b6 = 3 then (if t < hz r2.2 ∧ hk r2.2 t = 7 then (match f_p_awaitDefinition t b6 (hi h t 5) (hsi r2.2 b6 3 3) with | none => none | some r9 => (some (1, r9.2))) else none) else none))) else none)
set_option maxRecDepth 20000 in
theorem kf_p_readMember {l : Launch} {G : XG} {d : Nat} {t : Nat} {a0 : Nat} {h : XH} {r : Int32 × XH} (L0 : LY h) (hf : f_p_readMember t a0 h = some r) : XC l G xEX7_readMember (d + 3) [.ref t, .ref a0] h (fun v h2 => (h2 = r.2 ∧ v = some (.int r.1)) ∧ LY r.2) := by
  refine XC.virt xvX7_readMember (Nat.le_of_ble_eq_true rfl) ?_
  unfold f_p_readMember at hf
  refine XS.go (s_aloadn rfl rfl rfl) ?_
  by_cases qk1 : t < hz h ∧ hk h t = 7
  rotate_left
  · rw [if_neg qk1] at hf; cases hf
  rw [if_pos qk1] at hf
  refine XS.go (s_getie rfl xf7_26 qk1.1 qk1.2 (by decide) rfl rfl) ?_
  refine XS.go (s_istoren rfl rfl (Nat.le_of_ble_eq_true rfl)) ?_
  refine XS.go (s_aloadn rfl rfl rfl) ?_
  refine XS.go (s_aloadn rfl rfl rfl) ?_
  rcases e3 : f_p_newField t a0 h with _ | r2
  · rw [e3] at hf; cases hf
  rw [e3] at hf; dsimp only at hf
  refine r_callv rfl xvX7_newField xm7_137 (kf_p_newField (d := d) L0 e3) qk1.1 qk1.2 (by decide) rfl rfl (by omega) (by decide) (Nat.le_of_ble_eq_true rfl) ?_
  rintro _ _ ⟨⟨rfl, rfl⟩, L4⟩
  refine XS.go (s_astorenO rfl rfl (Nat.le_of_ble_eq_true rfl)) ?_
  refine XS.go (s_aloadnO rfl rfl rfl) ?_
  refine r_ifnonnull (tgt := 17) rfl rfl (fun qn5 => ?_) (fun b6 qn5 => ?_)
  · rw [qn5] at hf; dsimp only at hf; try rw [qn5]
    refine XS.go (s_iconst (v := 0) rfl rfl) ?_
    cases hf
    exact XR.retz rfl rfl (by decide) (fun hret => ⟨_, hret, ⟨rfl, rfl⟩, L4⟩)
  · rw [qn5] at hf; dsimp only at hf; try rw [qn5]
    refine XS.go (s_aloadn rfl rfl rfl) ?_
    refine XS.go (s_iconst (v := 3) rfl rfl) ?_
    by_cases qk7 : b6 < hz r2.2 ∧ hk r2.2 b6 = 3
    rotate_left
    · rw [if_neg qk7] at hf; cases hf
    rw [if_pos qk7] at hf
    refine XS.go (s_puti rfl xf7_158 qk7.1 qk7.2 (by decide) rfl (Or.inl rfl)) ?_
    refine XS.go (s_aloadn rfl rfl rfl) ?_
    refine XS.go (s_aloadn rfl rfl rfl) ?_
    refine XS.go (s_iloadn rfl rfl rfl) ?_
    by_cases qk8 : t < hz r2.2 ∧ hk r2.2 t = 7
    rotate_left
    · rw [if_neg qk8] at hf; cases hf
    rw [if_pos qk8] at hf
    rcases e10 : f_p_awaitDefinition t b6 (hi h t 5) (hsi r2.2 b6 3 3) with _ | r9
    · rw [e10] at hf; cases hf
    rw [e10] at hf; dsimp only at hf
    refine r_callv rfl xvX7_awaitDefinition xm7_219 (kf_p_awaitDefinition (d := d) (by simp only [LY_si, LY_sj]; exact L4) e10) (by simp only [hz_hsi, hk_hsi, hz_hsj, hk_hsj]; exact qk8.1) (by simp only [hz_hsi, hk_hsi, hz_hsj, hk_hsj]; exact qk8.2) (by decide) rfl rfl (by omega) (by decide) (Nat.le_of_ble_eq_true rfl) ?_
    rintro _ _ ⟨⟨rfl, rfl⟩, L11⟩
    refine XS.go (s_iconst (v := 1) rfl rfl) ?_
    cases hf
    exact XR.retz rfl rfl (by decide) (fun hret => ⟨_, hret, ⟨rfl, rfl⟩, L11⟩)
def b_p_readUnion_61 (x0 : Nat) (h : XH) : Option (Int32 × XH) := (if x0 < hz h ∧ hk h x0 = 7 then (match f_p_expect x0 125 h with | none => none | some r2 => (if r2.1 = 0 ∨ r2.1 = 1 then (some (r2.1, r2.2)) else none)) else none)
set_option maxRecDepth 20000 in
theorem kb_p_readUnion_61 {l : Launch} {G : XG} {d : Nat} {x0 : Nat} {h : XH} {r : Int32 × XH} (L0 : LY h) (hf : b_p_readUnion_61 x0 h = some r) : XR l G xEX7_readUnion (d + 4) (61, [some (.ref x0), none, none], [], h) (fun C => ∃ v, xRet xEX7_readUnion C v ∧ (C.2.2.2 = r.2 ∧ v = some (.int r.1)) ∧ LY r.2) := by
  unfold b_p_readUnion_61 at hf
  refine XS.go (s_aloadn rfl rfl rfl) ?_
  refine XS.go (s_bipush (v := 125) rfl rfl) ?_
  by_cases qk1 : x0 < hz h ∧ hk h x0 = 7
  rotate_left
  · rw [if_neg qk1] at hf; cases hf
  rw [if_pos qk1] at hf
  rcases e3 : f_p_expect x0 125 h with _ | r2
  · rw [e3] at hf; cases hf
  rw [e3] at hf; dsimp only at hf
  refine r_callv rfl xvX7_expect xm7_134 (kf_p_expect (d := d) L0 e3) qk1.1 qk1.2 (by decide) rfl rfl (by omega) (by decide) (Nat.le_of_ble_eq_true rfl) ?_
  rintro _ _ ⟨⟨rfl, rfl⟩, L4⟩
  by_cases qk5 : r2.1 = 0 ∨ r2.1 = 1
  rotate_left
  · rw [if_neg qk5] at hf; cases hf
  rw [if_pos qk5] at hf
  cases hf
  exact XR.retz rfl rfl qk5 (fun hret => ⟨_, hret, ⟨rfl, rfl⟩, L4⟩)
def s_p_readUnion_25 (K25 : Nat → Nat → Int32 → XH → Option (Int32 × XH)) (x0 : Nat) (x1 : Nat) (x2 : Int32) (h : XH) : Option (Int32 × XH) := (if x0 < hz h ∧ hk h x0 = 7 then (if ¬ (hi h x0 6) = 44 then (b_p_readUnion_61 x0 h) else (if 4000 < x2 then (b_p_readUnion_61 x0 h) else (match f_p_advance x0 h with | none => none | some r9 => (if x0 < hz r9.2 ∧ hk r9.2 x0 = 7 then (match f_p_readMember x0 x1 r9.2 with | none => none | some r13 => (if ¬ r13.1 = 0 then (K25 x0 x1 (x2 + 1) r13.2) else (some (0, r13.2)))) else none)))) else none)
set_option maxRecDepth 20000 in
theorem ks_p_readUnion_25 {l : Launch} {G : XG} {d : Nat} {K25 : Nat → Nat → Int32 → XH → Option (Int32 × XH)} {x0 : Nat} {x1 : Nat} {x2 : Int32} {h : XH} {r : Int32 × XH} (hK25 : ∀ (x0 : Nat) (x1 : Nat) (x2 : Int32) (h : XH), LY h → K25 x0 x1 x2 h = some r → XR l G xEX7_readUnion (d + 4) (25, [some (.ref x0), some (.ref x1), some (.int x2)], [], h) (fun C => ∃ v, xRet xEX7_readUnion C v ∧ (C.2.2.2 = r.2 ∧ v = some (.int r.1)) ∧ LY r.2)) (L0 : LY h) (hf : s_p_readUnion_25 K25 x0 x1 x2 h = some r) : XR l G xEX7_readUnion (d + 4) (25, [some (.ref x0), some (.ref x1), some (.int x2)], [], h) (fun C => ∃ v, xRet xEX7_readUnion C v ∧ (C.2.2.2 = r.2 ∧ v = some (.int r.1)) ∧ LY r.2) := by
  unfold s_p_readUnion_25 at hf
  refine XS.go (s_aloadn rfl rfl rfl) ?_
  by_cases qk6 : x0 < hz h ∧ hk h x0 = 7
  rotate_left
  · rw [if_neg qk6] at hf; cases hf
  rw [if_pos qk6] at hf
  refine XS.go (s_getie rfl xf7_31 qk6.1 qk6.2 (by decide) rfl rfl) ?_
  refine XS.go (s_bipush (v := 44) rfl rfl) ?_
  refine r_icmp_ne (tgt := 61) rfl rfl (fun qc7 => ?_) (fun qc7 => ?_)
  · rw [if_pos qc7] at hf
    exact XR.forget (L2 := [some (.ref x0), none, none]) ⟨rfl, trivial⟩ (kb_p_readUnion_61 L0 hf)
  · rw [if_neg qc7] at hf
    refine XS.go (s_iloadn rfl rfl rfl) ?_
    refine XS.go (s_sipush (v := 4000) rfl rfl) ?_
    refine r_icmp_gt (tgt := 61) rfl rfl (fun qc8 => ?_) (fun qc8 => ?_)
    · rw [if_pos qc8] at hf
      exact XR.forget (L2 := [some (.ref x0), none, none]) ⟨rfl, trivial⟩ (kb_p_readUnion_61 L0 hf)
    · rw [if_neg qc8] at hf
      refine XS.go (s_aloadn rfl rfl rfl) ?_
      rcases e10 : f_p_advance x0 h with _ | r9
      · rw [e10] at hf; cases hf
      rw [e10] at hf; dsimp only at hf
      refine r_callv rfl xvX7_advance xm7_82 (kf_p_advance (d := d) L0 e10) qk6.1 qk6.2 (by decide) rfl rfl (by omega) (by decide) (Nat.le_of_ble_eq_true rfl) ?_
      rintro _ _ ⟨⟨rfl, rfl⟩, L11⟩
      refine XS.go (s_aloadn rfl rfl rfl) ?_
      refine XS.go (s_aloadn rfl rfl rfl) ?_
      by_cases qk12 : x0 < hz r9.2 ∧ hk r9.2 x0 = 7
      rotate_left
      · rw [if_neg qk12] at hf; cases hf
      rw [if_pos qk12] at hf
      rcases e14 : f_p_readMember x0 x1 r9.2 with _ | r13
      · rw [e14] at hf; cases hf
      rw [e14] at hf; dsimp only at hf
      refine r_callv rfl xvX7_readMember xm7_241 (kf_p_readMember (d := d) L11 e14) qk12.1 qk12.2 (by decide) rfl rfl (by omega) (by decide) (Nat.le_of_ble_eq_true rfl) ?_
      rintro _ _ ⟨⟨rfl, rfl⟩, L15⟩
      refine r_if_ne (tgt := 55) rfl rfl (fun qc16 => ?_) (fun qc16 => ?_)
      · rw [if_pos qc16] at hf
        refine XS.go (s_inc rfl rfl (Nat.le_of_ble_eq_true rfl)) ?_
        refine XS.go (s_goto (tgt := 25) rfl rfl) ?_
        exact XR.forget (L2 := [some (.ref x0), some (.ref x1), some (.int (x2 + 1))]) ⟨rfl, ⟨rfl, ⟨rfl, trivial⟩⟩⟩ (hK25 x0 x1 (x2 + 1) _ L15 hf)
      · rw [if_neg qc16] at hf
        refine XS.go (s_iconst (v := 0) rfl rfl) ?_
        cases hf
        exact XR.retz rfl rfl (by decide) (fun hret => ⟨_, hret, ⟨rfl, rfl⟩, L15⟩)
def b_p_readUnion_25 : Nat → Nat → Nat → Int32 → XH → Option (Int32 × XH)
  | 0, _, _, _, _ => none
  | n + 1, x0, x1, x2, h => s_p_readUnion_25 (b_p_readUnion_25 n) x0 x1 x2 h
theorem kb_p_readUnion_25 {l : Launch} {G : XG} {d : Nat} {n : Nat} {x0 : Nat} {x1 : Nat} {x2 : Int32} {h : XH} {r : Int32 × XH} (L0 : LY h) (hf : b_p_readUnion_25 n x0 x1 x2 h = some r) : XR l G xEX7_readUnion (d + 4) (25, [some (.ref x0), some (.ref x1), some (.int x2)], [], h) (fun C => ∃ v, xRet xEX7_readUnion C v ∧ (C.2.2.2 = r.2 ∧ v = some (.int r.1)) ∧ LY r.2) := by
  induction n generalizing x0 x1 x2 h with
  | zero => cases hf
  | succ n ih => exact ks_p_readUnion_25 (fun x0 x1 x2 h L0 hf => ih (h := h) (x0 := x0) (x1 := x1) (x2 := x2) L0 hf) L0 hf
def f_p_readUnion (t : Nat) (a0 : Nat) (h : XH) : Option (Int32 × XH) := (if t < hz h ∧ hk h t = 7 then (match f_p_expect t 123 h with | none => none | some r18 => (if r18.1 = 0 then (some (0, r18.2)) else (if t < hz r18.2 ∧ hk r18.2 t = 7 then (match f_p_readMember t a0 r18.2 with | none => none | some r23 => (if ¬ r23.1 = 0 then (b_p_readUnion_25 100000 t a0 0 r23.2) else (some (0, r23.2)))) else none))) else none)
set_option maxRecDepth 20000 in
theorem kf_p_readUnion {l : Launch} {G : XG} {d : Nat} {t : Nat} {a0 : Nat} {h : XH} {r : Int32 × XH} (L0 : LY h) (hf : f_p_readUnion t a0 h = some r) : XC l G xEX7_readUnion (d + 4) [.ref t, .ref a0] h (fun v h2 => (h2 = r.2 ∧ v = some (.int r.1)) ∧ LY r.2) := by
  refine XC.virt xvX7_readUnion (Nat.le_of_ble_eq_true rfl) ?_
  unfold f_p_readUnion at hf
  refine XS.go (s_aloadn rfl rfl rfl) ?_
  refine XS.go (s_ifnull_r rfl) ?_
  refine XS.go (s_aloadn rfl rfl rfl) ?_
  refine XS.go (s_bipush (v := 123) rfl rfl) ?_
  by_cases qk17 : t < hz h ∧ hk h t = 7
  rotate_left
  · rw [if_neg qk17] at hf; cases hf
  rw [if_pos qk17] at hf
  rcases e19 : f_p_expect t 123 h with _ | r18
  · rw [e19] at hf; cases hf
  rw [e19] at hf; dsimp only at hf
  refine r_callv rfl xvX7_expect xm7_134 (kf_p_expect (d := d) L0 e19) qk17.1 qk17.2 (by decide) rfl rfl (by omega) (by decide) (Nat.le_of_ble_eq_true rfl) ?_
  rintro _ _ ⟨⟨rfl, rfl⟩, L20⟩
  refine r_if_eq (tgt := 21) rfl rfl (fun qc21 => ?_) (fun qc21 => ?_)
  · rw [if_pos qc21] at hf
    refine XS.go (s_iconst (v := 0) rfl rfl) ?_
    cases hf
    exact XR.retz rfl rfl (by decide) (fun hret => ⟨_, hret, ⟨rfl, rfl⟩, L20⟩)
  · rw [if_neg qc21] at hf
    refine XS.go (s_aloadn rfl rfl rfl) ?_
    refine XS.go (s_aloadn rfl rfl rfl) ?_
    by_cases qk22 : t < hz r18.2 ∧ hk r18.2 t = 7
    rotate_left
    · rw [if_neg qk22] at hf; cases hf
    rw [if_pos qk22] at hf
    rcases e24 : f_p_readMember t a0 r18.2 with _ | r23
    · rw [e24] at hf; cases hf
    rw [e24] at hf; dsimp only at hf
    refine r_callv rfl xvX7_readMember xm7_241 (kf_p_readMember (d := d) L20 e24) qk22.1 qk22.2 (by decide) rfl rfl (by omega) (by decide) (Nat.le_of_ble_eq_true rfl) ?_
    rintro _ _ ⟨⟨rfl, rfl⟩, L25⟩
    refine r_if_ne (tgt := 23) rfl rfl (fun qc26 => ?_) (fun qc26 => ?_)
    · rw [if_pos qc26] at hf
      refine XS.go (s_iconst (v := 0) rfl rfl) ?_
      refine XS.go (s_istoren rfl rfl (Nat.le_of_ble_eq_true rfl)) ?_
      exact XR.forget (L2 := [some (.ref t), some (.ref a0), some (.int 0)]) ⟨rfl, ⟨rfl, ⟨rfl, trivial⟩⟩⟩ (kb_p_readUnion_25 L25 hf)
    · rw [if_neg qc26] at hf
      refine XS.go (s_iconst (v := 0) rfl rfl) ?_
      cases hf
      exact XR.retz rfl rfl (by decide) (fun hret => ⟨_, hret, ⟨rfl, rfl⟩, L25⟩)
def b_p_readDefinition_29 (x0 : Nat) (x1 : Int32) (h : XH) : Option (Int32 × XH) := (if x0 < hz h ∧ hk h x0 = 7 then (match f_p_advance x0 h with | none => none | some r2 => (if ¬ x1 = 6 then (if ¬ x1 = 7 then (if x0 < hz r2.2 ∧ hk r2.2 x0 = 7 then (match hr r2.2 x0 1 with | none => none | some b8 => (if b8 < hz r2.2 ∧ hk r2.2 b8 = 9 then (match hr r2.2 b8 2 with | none => none | some b11 => (match f_p_newDefinition x0 b11 r2.2 with | none => none | some r13 => (if x0 < hz r13.2 ∧ hk r13.2 x0 = 7 then (match r13.1 with | none => none | some b17 => (match f_p_readUnion x0 b17 r13.2 with | none => none | some r19 => (if r19.1 = 0 ∨ r19.1 = 1 then (some (r19.1, r19.2)) else none))) else none))) else none)) else none) else (if x0 < hz r2.2 ∧ hk r2.2 x0 = 7 then (match hr r2.2 x0 1 with | none => none | some b24 => (if b24 < hz r2.2 ∧ hk r2.2 b24 = 9 then (match hr r2.2 b24 1 with | none => none | some b27 => (match f_p_newDefinition x0 b27 r2.2 with | none => none | some r29 => (if x0 < hz r29.2 ∧ hk r29.2 x0 = 7 then (match r29.1 with | none => none | some b33 => (match f_p_readTable x0 b33 r29.2 with | none => none | some r35 => (if r35.1 = 0 ∨ r35.1 = 1 then (some (r35.1, r35.2)) else none))) else none))) else none)) else none)) else (if x0 < hz r2.2 ∧ hk r2.2 x0 = 7 then (match hr r2.2 x0 1 with | none => none | some b40 => (if b40 < hz r2.2 ∧ hk r2.2 b40 = 9 then (match hr r2.2 b40 0 with | none => none | some b43 => (match f_p_newDefinition x0 b43 r2.2 with | none => none | some r45 => (if x0 < hz r45.2 ∧ hk r45.2 x0 = 7 then (match r45.1 with | none => none | some b49 => (match f_p_readStruct x0 b49 r45.2 with | none => none | some r51 => (if r51.1 = 0 ∨ r51.1 = 1 then (some (r51.1, r51.2)) else none))) else none))) else none)) else none))) else none)
set_option maxRecDepth 20000 in
theorem kb_p_readDefinition_29 {l : Launch} {G : XG} {d : Nat} {x0 : Nat} {x1 : Int32} {h : XH} {r : Int32 × XH} (L0 : LY h) (hf : b_p_readDefinition_29 x0 x1 h = some r) : XR l G xEX7_readDefinition (d + 5) (29, [some (.ref x0), some (.int x1)], [], h) (fun C => ∃ v, xRet xEX7_readDefinition C v ∧ (C.2.2.2 = r.2 ∧ v = some (.int r.1)) ∧ LY r.2) := by
  unfold b_p_readDefinition_29 at hf
  refine XS.go (s_aloadn rfl rfl rfl) ?_
  by_cases qk1 : x0 < hz h ∧ hk h x0 = 7
  rotate_left
  · rw [if_neg qk1] at hf; cases hf
  rw [if_pos qk1] at hf
  rcases e3 : f_p_advance x0 h with _ | r2
  · rw [e3] at hf; cases hf
  rw [e3] at hf; dsimp only at hf
  refine r_callv rfl xvX7_advance xm7_82 (kf_p_advance (d := d) L0 e3) qk1.1 qk1.2 (by decide) rfl rfl (by omega) (by decide) (Nat.le_of_ble_eq_true rfl) ?_
  rintro _ _ ⟨⟨rfl, rfl⟩, L4⟩
  refine XS.go (s_iloadn rfl rfl rfl) ?_
  refine XS.go (s_bipush (v := 6) rfl rfl) ?_
  refine r_icmp_ne (tgt := 55) rfl rfl (fun qc5 => ?_) (fun qc5 => ?_)
  · rw [if_pos qc5] at hf
    refine XS.go (s_iloadn rfl rfl rfl) ?_
    refine XS.go (s_bipush (v := 7) rfl rfl) ?_
    refine r_icmp_ne (tgt := 77) rfl rfl (fun qc6 => ?_) (fun qc6 => ?_)
    · rw [if_pos qc6] at hf
      refine XS.go (s_aloadn rfl rfl rfl) ?_
      refine XS.go (s_aloadn rfl rfl rfl) ?_
      refine XS.go (s_aloadn rfl rfl rfl) ?_
      by_cases qk7 : x0 < hz r2.2 ∧ hk r2.2 x0 = 7
      rotate_left
      · rw [if_neg qk7] at hf; cases hf
      rw [if_pos qk7] at hf
      rcases qr9 : hr r2.2 x0 1 with _ | b8
      · rw [qr9] at hf; cases hf
      rw [qr9] at hf; dsimp only at hf
      refine XS.go (s_getr rfl xf7_44 qk7.1 qk7.2 (by decide) rfl qr9) ?_
      by_cases qk10 : b8 < hz r2.2 ∧ hk r2.2 b8 = 9
      rotate_left
      · rw [if_neg qk10] at hf; cases hf
      rw [if_pos qk10] at hf
      rcases qr12 : hr r2.2 b8 2 with _ | b11
      · rw [qr12] at hf; cases hf
      rw [qr12] at hf; dsimp only at hf
      refine XS.go (s_getr rfl xf7_103 qk10.1 qk10.2 (by decide) rfl qr12) ?_
      rcases e14 : f_p_newDefinition x0 b11 r2.2 with _ | r13
      · rw [e14] at hf; cases hf
      rw [e14] at hf; dsimp only at hf
      refine r_callv rfl xvX7_newDefinition xm7_89 (kf_p_newDefinition (d := d) L4 e14) qk7.1 qk7.2 (by decide) rfl rfl (by omega) (by decide) (Nat.le_of_ble_eq_true rfl) ?_
      rintro _ _ ⟨⟨rfl, rfl⟩, L15⟩
      by_cases qk16 : x0 < hz r13.2 ∧ hk r13.2 x0 = 7
      rotate_left
      · rw [if_neg qk16] at hf; cases hf
      rw [if_pos qk16] at hf
      rcases qo18 : r13.1 with _ | b17
      · rw [qo18] at hf; cases hf
      rw [qo18] at hf; dsimp only at hf; try rw [qo18]
      rcases e20 : f_p_readUnion x0 b17 r13.2 with _ | r19
      · rw [e20] at hf; cases hf
      rw [e20] at hf; dsimp only at hf
      refine r_callv rfl xvX7_readUnion xm7_106 (kf_p_readUnion (d := d) L15 e20) qk16.1 qk16.2 (by decide) rfl rfl (by omega) (by decide) (Nat.le_of_ble_eq_true rfl) ?_
      rintro _ _ ⟨⟨rfl, rfl⟩, L21⟩
      by_cases qk22 : r19.1 = 0 ∨ r19.1 = 1
      rotate_left
      · rw [if_neg qk22] at hf; cases hf
      rw [if_pos qk22] at hf
      cases hf
      exact XR.retz rfl rfl qk22 (fun hret => ⟨_, hret, ⟨rfl, rfl⟩, L21⟩)
    · rw [if_neg qc6] at hf
      refine XS.go (s_aloadn rfl rfl rfl) ?_
      refine XS.go (s_aloadn rfl rfl rfl) ?_
      refine XS.go (s_aloadn rfl rfl rfl) ?_
      by_cases qk23 : x0 < hz r2.2 ∧ hk r2.2 x0 = 7
      rotate_left
      · rw [if_neg qk23] at hf; cases hf
      rw [if_pos qk23] at hf
      rcases qr25 : hr r2.2 x0 1 with _ | b24
      · rw [qr25] at hf; cases hf
      rw [qr25] at hf; dsimp only at hf
      refine XS.go (s_getr rfl xf7_44 qk23.1 qk23.2 (by decide) rfl qr25) ?_
      by_cases qk26 : b24 < hz r2.2 ∧ hk r2.2 b24 = 9
      rotate_left
      · rw [if_neg qk26] at hf; cases hf
      rw [if_pos qk26] at hf
      rcases qr28 : hr r2.2 b24 1 with _ | b27
      · rw [qr28] at hf; cases hf
      rw [qr28] at hf; dsimp only at hf
      refine XS.go (s_getr rfl xf7_97 qk26.1 qk26.2 (by decide) rfl qr28) ?_
      rcases e30 : f_p_newDefinition x0 b27 r2.2 with _ | r29
      · rw [e30] at hf; cases hf
      rw [e30] at hf; dsimp only at hf
      refine r_callv rfl xvX7_newDefinition xm7_89 (kf_p_newDefinition (d := d) L4 e30) qk23.1 qk23.2 (by decide) rfl rfl (by omega) (by decide) (Nat.le_of_ble_eq_true rfl) ?_
      rintro _ _ ⟨⟨rfl, rfl⟩, L31⟩
      by_cases qk32 : x0 < hz r29.2 ∧ hk r29.2 x0 = 7
      rotate_left
      · rw [if_neg qk32] at hf; cases hf
      rw [if_pos qk32] at hf
      rcases qo34 : r29.1 with _ | b33
      · rw [qo34] at hf; cases hf
      rw [qo34] at hf; dsimp only at hf; try rw [qo34]
      rcases e36 : f_p_readTable x0 b33 r29.2 with _ | r35
      · rw [e36] at hf; cases hf
      rw [e36] at hf; dsimp only at hf
      refine r_callv rfl xvX7_readTable xm7_100 (kf_p_readTable (d := d) L31 e36) qk32.1 qk32.2 (by decide) rfl rfl (by omega) (by decide) (Nat.le_of_ble_eq_true rfl) ?_
      rintro _ _ ⟨⟨rfl, rfl⟩, L37⟩
      by_cases qk38 : r35.1 = 0 ∨ r35.1 = 1
      rotate_left
      · rw [if_neg qk38] at hf; cases hf
      rw [if_pos qk38] at hf
      cases hf
      exact XR.retz rfl rfl qk38 (fun hret => ⟨_, hret, ⟨rfl, rfl⟩, L37⟩)
  · rw [if_neg qc5] at hf
    refine XS.go (s_aloadn rfl rfl rfl) ?_
    refine XS.go (s_aloadn rfl rfl rfl) ?_
    refine XS.go (s_aloadn rfl rfl rfl) ?_
    by_cases qk39 : x0 < hz r2.2 ∧ hk r2.2 x0 = 7
    rotate_left
    · rw [if_neg qk39] at hf; cases hf
    rw [if_pos qk39] at hf
    rcases qr41 : hr r2.2 x0 1 with _ | b40
    · rw [qr41] at hf; cases hf
    rw [qr41] at hf; dsimp only at hf
    refine XS.go (s_getr rfl xf7_44 qk39.1 qk39.2 (by decide) rfl qr41) ?_
    by_cases qk42 : b40 < hz r2.2 ∧ hk r2.2 b40 = 9
    rotate_left
    · rw [if_neg qk42] at hf; cases hf
    rw [if_pos qk42] at hf
    rcases qr44 : hr r2.2 b40 0 with _ | b43
    · rw [qr44] at hf; cases hf
    rw [qr44] at hf; dsimp only at hf
    refine XS.go (s_getr rfl xf7_85 qk42.1 qk42.2 (by decide) rfl qr44) ?_
    rcases e46 : f_p_newDefinition x0 b43 r2.2 with _ | r45
    · rw [e46] at hf; cases hf
    rw [e46] at hf; dsimp only at hf
    refine r_callv rfl xvX7_newDefinition xm7_89 (kf_p_newDefinition (d := d) L4 e46) qk39.1 qk39.2 (by decide) rfl rfl (by omega) (by decide) (Nat.le_of_ble_eq_true rfl) ?_
    rintro _ _ ⟨⟨rfl, rfl⟩, L47⟩
    by_cases qk48 : x0 < hz r45.2 ∧ hk r45.2 x0 = 7
    rotate_left
    · rw [if_neg qk48] at hf; cases hf
    rw [if_pos qk48] at hf
    rcases qo50 : r45.1 with _ | b49
    · rw [qo50] at hf; cases hf
    rw [qo50] at hf; dsimp only at hf; try rw [qo50]
    rcases e52 : f_p_readStruct x0 b49 r45.2 with _ | r51
    · rw [e52] at hf; cases hf
    rw [e52] at hf; dsimp only at hf
    refine r_callv rfl xvX7_readStruct xm7_93 (kf_p_readStruct (d := d) L47 e52) qk48.1 qk48.2 (by decide) rfl rfl (by omega) (by decide) (Nat.le_of_ble_eq_true rfl) ?_
    rintro _ _ ⟨⟨rfl, rfl⟩, L53⟩
    by_cases qk54 : r51.1 = 0 ∨ r51.1 = 1
    rotate_left
    · rw [if_neg qk54] at hf; cases hf
    rw [if_pos qk54] at hf
    cases hf
    exact XR.retz rfl rfl qk54 (fun hret => ⟨_, hret, ⟨rfl, rfl⟩, L53⟩)
def f_p_readDefinition (t : Nat) (h : XH) : Option (Int32 × XH) := (if t < hz h ∧ hk h t = 7 then (if (hi h t 6) = 6 then (b_p_readDefinition_29 t (hi h t 6) h) else (if (hi h t 6) = 7 then (b_p_readDefinition_29 t (hi h t 6) h) else (if (hi h t 6) = 8 then (b_p_readDefinition_29 t (hi h t 6) h) else (match f_p_fail t 2 h with | none => none | some r59 => (if r59.1 = 0 ∨ r59.1 = 1 then (some (r59.1, r59.2)) else none))))) else none)
set_option maxRecDepth 20000 in
theorem kf_p_readDefinition {l : Launch} {G : XG} {d : Nat} {t : Nat} {h : XH} {r : Int32 × XH} (L0 : LY h) (hf : f_p_readDefinition t h = some r) : XC l G xEX7_readDefinition (d + 5) [.ref t] h (fun v h2 => (h2 = r.2 ∧ v = some (.int r.1)) ∧ LY r.2) := by
  refine XC.virt xvX7_readDefinition (Nat.le_of_ble_eq_true rfl) ?_
  unfold f_p_readDefinition at hf
  refine XS.go (s_aloadn rfl rfl rfl) ?_
  by_cases qk55 : t < hz h ∧ hk h t = 7
  rotate_left
  · rw [if_neg qk55] at hf; cases hf
  rw [if_pos qk55] at hf
  refine XS.go (s_getie rfl xf7_31 qk55.1 qk55.2 (by decide) rfl rfl) ?_
  refine XS.go (s_istoren rfl rfl (Nat.le_of_ble_eq_true rfl)) ?_
  refine XS.go (s_iloadn rfl rfl rfl) ?_
  refine XS.go (s_bipush (v := 6) rfl rfl) ?_
  refine r_icmp_eq (tgt := 29) rfl rfl (fun qc56 => ?_) (fun qc56 => ?_)
  · rw [if_pos qc56] at hf
    exact XR.forget (L2 := [some (.ref t), some (.int (hi h t 6))]) ⟨rfl, ⟨rfl, trivial⟩⟩ (kb_p_readDefinition_29 L0 hf)
  · rw [if_neg qc56] at hf
    refine XS.go (s_iloadn rfl rfl rfl) ?_
    refine XS.go (s_bipush (v := 7) rfl rfl) ?_
    refine r_icmp_eq (tgt := 29) rfl rfl (fun qc57 => ?_) (fun qc57 => ?_)
    · rw [if_pos qc57] at hf
      exact XR.forget (L2 := [some (.ref t), some (.int (hi h t 6))]) ⟨rfl, ⟨rfl, trivial⟩⟩ (kb_p_readDefinition_29 L0 hf)
    · rw [if_neg qc57] at hf
      refine XS.go (s_iloadn rfl rfl rfl) ?_
      refine XS.go (s_bipush (v := 8) rfl rfl) ?_
      refine r_icmp_eq (tgt := 29) rfl rfl (fun qc58 => ?_) (fun qc58 => ?_)
      · rw [if_pos qc58] at hf
        exact XR.forget (L2 := [some (.ref t), some (.int (hi h t 6))]) ⟨rfl, ⟨rfl, trivial⟩⟩ (kb_p_readDefinition_29 L0 hf)
      · rw [if_neg qc58] at hf
        refine XS.go (s_aloadn rfl rfl rfl) ?_
        refine XS.go (s_iconst (v := 2) rfl rfl) ?_
        rcases e60 : f_p_fail t 2 h with _ | r59
        · rw [e60] at hf; cases hf
        rw [e60] at hf; dsimp only at hf
        refine r_callv rfl xvX7_fail xm7_78 (kf_p_fail (d := d) L0 e60) qk55.1 qk55.2 (by decide) rfl rfl (by omega) (by decide) (Nat.le_of_ble_eq_true rfl) ?_
        rintro _ _ ⟨⟨rfl, rfl⟩, L61⟩
        by_cases qk62 : r59.1 = 0 ∨ r59.1 = 1
        rotate_left
        · rw [if_neg qk62] at hf; cases hf
        rw [if_pos qk62] at hf
        cases hf
        exact XR.retz rfl rfl qk62 (fun hret => ⟨_, hret, ⟨rfl, rfl⟩, L61⟩)
def b_p_readRoot_63 (h : XH) : Option (Int32 × XH) := (some (1, h))
set_option maxRecDepth 20000 in
theorem kb_p_readRoot_63 {l : Launch} {G : XG} {d : Nat} {h : XH} {r : Int32 × XH} (L0 : LY h) (hf : b_p_readRoot_63 h = some r) : XR l G xEX7_readRoot (d + 3) (63, [none], [], h) (fun C => ∃ v, xRet xEX7_readRoot C v ∧ (C.2.2.2 = r.2 ∧ v = some (.int r.1)) ∧ LY r.2) := by
  unfold b_p_readRoot_63 at hf
  refine XS.go (s_iconst (v := 1) rfl rfl) ?_
  refine XS.go (s_goto (tgt := 68) rfl rfl) ?_
  cases hf
  exact XR.retz rfl rfl (by decide) (fun hret => ⟨_, hret, ⟨rfl, rfl⟩, L0⟩)
def f_p_readRoot (t : Nat) (h : XH) : Option (Int32 × XH) := (if t < hz h ∧ hk h t = 7 then (match f_p_expect t 9 h with | none => none | some r2 => (if ¬ r2.1 = 0 then (if t < hz r2.2 ∧ hk r2.2 t = 7 then (match hr r2.2 t 4 with | none => none | some b7 => (if b7 < hz r2.2 ∧ hk r2.2 b7 = 3 then (match f_p_awaitDefinition t b7 (hi r2.2 t 5) (hsi r2.2 b7 3 3) with | none => none | some r10 => (if t < hz r10.2 ∧ hk r10.2 t = 7 then (match f_p_expect t 2 r10.2 with | none => none | some r14 => (if r14.1 = 0 then (some (0, r14.2)) else (if t < hz r14.2 ∧ hk r14.2 t = 7 then (match f_p_expect t 59 r14.2 with | none => none | some r19 => (if r19.1 = 0 then (some (0, r19.2)) else (if t < hz r19.2 ∧ hk r19.2 t = 7 then (if (hi r19.2 t 6) = 0 then (b_p_readRoot_63 r19.2) else (match f_p_fail t 2 r19.2 with | none => none | some r25 => (if r25.1 = 0 then (some (0, r25.2)) else (b_p_readRoot_63 r25.2)))) else none))) else none))) else none)) else none)) else none) else (some (0, r2.2)))) else none)
set_option maxRecDepth 20000 in
theorem kf_p_readRoot {l : Launch} {G : XG} {d : Nat} {t : Nat} {h : XH} {r : Int32 × XH} (L0 : LY h) (hf : f_p_readRoot t h = some r) : XC l G xEX7_readRoot (d + 3) [.ref t] h (fun v h2 => (h2 = r.2 ∧ v = some (.int r.1)) ∧ LY r.2) := by
  refine XC.virt xvX7_readRoot (Nat.le_of_ble_eq_true rfl) ?_
  unfold f_p_readRoot at hf
  refine XS.go (s_aloadn rfl rfl rfl) ?_
  refine XS.go (s_bipush (v := 9) rfl rfl) ?_
  by_cases qk1 : t < hz h ∧ hk h t = 7
  rotate_left
  · rw [if_neg qk1] at hf; cases hf
  rw [if_pos qk1] at hf
  rcases e3 : f_p_expect t 9 h with _ | r2
  · rw [e3] at hf; cases hf
  rw [e3] at hf; dsimp only at hf
  refine r_callv rfl xvX7_expect xm7_134 (kf_p_expect (d := d) L0 e3) qk1.1 qk1.2 (by decide) rfl rfl (by omega) (by decide) (Nat.le_of_ble_eq_true rfl) ?_
  rintro _ _ ⟨⟨rfl, rfl⟩, L4⟩
  refine r_if_ne (tgt := 11) rfl rfl (fun qc5 => ?_) (fun qc5 => ?_)
  · rw [if_pos qc5] at hf
    refine XS.go (s_aloadn rfl rfl rfl) ?_
    by_cases qk6 : t < hz r2.2 ∧ hk r2.2 t = 7
    rotate_left
    · rw [if_neg qk6] at hf; cases hf
    rw [if_pos qk6] at hf
    rcases qr8 : hr r2.2 t 4 with _ | b7
    · rw [qr8] at hf; cases hf
    rw [qr8] at hf; dsimp only at hf
    refine XS.go (s_getr rfl xf7_22 qk6.1 qk6.2 (by decide) rfl qr8) ?_
    refine XS.go (s_iconst (v := 3) rfl rfl) ?_
    by_cases qk9 : b7 < hz r2.2 ∧ hk r2.2 b7 = 3
    rotate_left
    · rw [if_neg qk9] at hf; cases hf
    rw [if_pos qk9] at hf
    refine XS.go (s_puti rfl xf7_158 qk9.1 qk9.2 (by decide) rfl (Or.inl rfl)) ?_
    refine XS.go (s_aloadn rfl rfl rfl) ?_
    refine XS.go (s_aloadn rfl rfl rfl) ?_
    refine XS.go (s_getr rfl xf7_22 (by simp only [hz_hsi, hk_hsi, hz_hsj, hk_hsj]; exact qk6.1) (by simp only [hz_hsi, hk_hsi, hz_hsj, hk_hsj]; exact qk6.2) (by decide) rfl (by simp only [hr_hsi, hr_hsj]; exact qr8)) ?_
    refine XS.go (s_aloadn rfl rfl rfl) ?_
    refine XS.go (s_getie rfl xf7_26 (by simp only [hz_hsi, hk_hsi, hz_hsj, hk_hsj]; exact qk6.1) (by simp only [hz_hsi, hk_hsi, hz_hsj, hk_hsj]; exact qk6.2) (by decide) rfl (hi_hsi_nk (by decide))) ?_
    rcases e11 : f_p_awaitDefinition t b7 (hi r2.2 t 5) (hsi r2.2 b7 3 3) with _ | r10
    · rw [e11] at hf; cases hf
    rw [e11] at hf; dsimp only at hf
    refine r_callv rfl xvX7_awaitDefinition xm7_219 (kf_p_awaitDefinition (d := d) (by simp only [LY_si, LY_sj]; exact L4) e11) (by simp only [hz_hsi, hk_hsi, hz_hsj, hk_hsj]; exact qk6.1) (by simp only [hz_hsi, hk_hsi, hz_hsj, hk_hsj]; exact qk6.2) (by decide) rfl rfl (by omega) (by decide) (Nat.le_of_ble_eq_true rfl) ?_
    rintro _ _ ⟨⟨rfl, rfl⟩, L12⟩
    refine XS.go (s_aloadn rfl rfl rfl) ?_
    refine XS.go (s_iconst (v := 2) rfl rfl) ?_
    by_cases qk13 : t < hz r10.2 ∧ hk r10.2 t = 7
    rotate_left
    · rw [if_neg qk13] at hf; cases hf
    rw [if_pos qk13] at hf
    rcases e15 : f_p_expect t 2 r10.2 with _ | r14
    · rw [e15] at hf; cases hf
    rw [e15] at hf; dsimp only at hf
    refine r_callv rfl xvX7_expect xm7_134 (kf_p_expect (d := d) L12 e15) qk13.1 qk13.2 (by decide) rfl rfl (by omega) (by decide) (Nat.le_of_ble_eq_true rfl) ?_
    rintro _ _ ⟨⟨rfl, rfl⟩, L16⟩
    refine r_if_eq (tgt := 67) rfl rfl (fun qc17 => ?_) (fun qc17 => ?_)
    · rw [if_pos qc17] at hf
      refine XS.go (s_iconst (v := 0) rfl rfl) ?_
      cases hf
      exact XR.retz rfl rfl (by decide) (fun hret => ⟨_, hret, ⟨rfl, rfl⟩, L16⟩)
    · rw [if_neg qc17] at hf
      refine XS.go (s_aloadn rfl rfl rfl) ?_
      refine XS.go (s_bipush (v := 59) rfl rfl) ?_
      by_cases qk18 : t < hz r14.2 ∧ hk r14.2 t = 7
      rotate_left
      · rw [if_neg qk18] at hf; cases hf
      rw [if_pos qk18] at hf
      rcases e20 : f_p_expect t 59 r14.2 with _ | r19
      · rw [e20] at hf; cases hf
      rw [e20] at hf; dsimp only at hf
      refine r_callv rfl xvX7_expect xm7_134 (kf_p_expect (d := d) L16 e20) qk18.1 qk18.2 (by decide) rfl rfl (by omega) (by decide) (Nat.le_of_ble_eq_true rfl) ?_
      rintro _ _ ⟨⟨rfl, rfl⟩, L21⟩
      refine r_if_eq (tgt := 67) rfl rfl (fun qc22 => ?_) (fun qc22 => ?_)
      · rw [if_pos qc22] at hf
        refine XS.go (s_iconst (v := 0) rfl rfl) ?_
        cases hf
        exact XR.retz rfl rfl (by decide) (fun hret => ⟨_, hret, ⟨rfl, rfl⟩, L21⟩)
      · rw [if_neg qc22] at hf
        refine XS.go (s_aloadn rfl rfl rfl) ?_
        by_cases qk23 : t < hz r19.2 ∧ hk r19.2 t = 7
        rotate_left
        · rw [if_neg qk23] at hf; cases hf
        rw [if_pos qk23] at hf
        refine XS.go (s_getie rfl xf7_31 qk23.1 qk23.2 (by decide) rfl rfl) ?_
        refine r_if_eq (tgt := 63) rfl rfl (fun qc24 => ?_) (fun qc24 => ?_)
        · rw [if_pos qc24] at hf
          exact XR.forget (L2 := [none]) trivial (kb_p_readRoot_63 L21 hf)
        · rw [if_neg qc24] at hf
          refine XS.go (s_aloadn rfl rfl rfl) ?_
          refine XS.go (s_iconst (v := 2) rfl rfl) ?_
          rcases e26 : f_p_fail t 2 r19.2 with _ | r25
          · rw [e26] at hf; cases hf
          rw [e26] at hf; dsimp only at hf
          refine r_callv rfl xvX7_fail xm7_78 (kf_p_fail (d := d) L21 e26) qk23.1 qk23.2 (by decide) rfl rfl (by omega) (by decide) (Nat.le_of_ble_eq_true rfl) ?_
          rintro _ _ ⟨⟨rfl, rfl⟩, L27⟩
          refine r_if_eq (tgt := 67) rfl rfl (fun qc28 => ?_) (fun qc28 => ?_)
          · rw [if_pos qc28] at hf
            refine XS.go (s_iconst (v := 0) rfl rfl) ?_
            cases hf
            exact XR.retz rfl rfl (by decide) (fun hret => ⟨_, hret, ⟨rfl, rfl⟩, L27⟩)
          · rw [if_neg qc28] at hf
            exact XR.forget (L2 := [none]) trivial (kb_p_readRoot_63 L27 hf)
  · rw [if_neg qc5] at hf
    refine XS.go (s_iconst (v := 0) rfl rfl) ?_
    cases hf
    exact XR.retz rfl rfl (by decide) (fun hret => ⟨_, hret, ⟨rfl, rfl⟩, L4⟩)
def b_p_mayStand_38 (h : XH) : Option (Int32 × XH) := (some (1, h))
set_option maxRecDepth 20000 in
theorem kb_p_mayStand_38 {l : Launch} {G : XG} {d : Nat} {h : XH} {r : Int32 × XH} (L0 : LY h) (hf : b_p_mayStand_38 h = some r) : XR l G xEX7_mayStand d (38, [none, none], [], h) (fun C => ∃ v, xRet xEX7_mayStand C v ∧ (C.2.2.2 = r.2 ∧ v = some (.int r.1)) ∧ LY r.2) := by
  unfold b_p_mayStand_38 at hf
  refine XS.go (s_iconst (v := 1) rfl rfl) ?_
  refine XS.go (s_goto (tgt := 43) rfl rfl) ?_
  cases hf
  exact XR.retz rfl rfl (by decide) (fun hret => ⟨_, hret, ⟨rfl, rfl⟩, L0⟩)
def f_p_mayStand (a0 : Nat) (a1 : Nat) (h : XH) : Option (Int32 × XH) := (if a0 < hz h ∧ hk h a0 = 3 then (if ¬ (hi h a0 3) = 5 then (if ¬ (hi h a0 3) = 3 then (b_p_mayStand_38 h) else (if a1 < hz h ∧ hk h a1 = 2 then (if ¬ (hi h a1 0) = 3 then (some (0, h)) else (b_p_mayStand_38 h)) else none)) else (if a1 < hz h ∧ hk h a1 = 2 then (if (hi h a1 0) = 4 then (some (0, h)) else (some (1, h))) else none)) else none)
set_option maxRecDepth 20000 in
theorem kf_p_mayStand {l : Launch} {G : XG} {d : Nat} {a0 : Nat} {a1 : Nat} {h : XH} {r : Int32 × XH} (L0 : LY h) (hf : f_p_mayStand a0 a1 h = some r) : XC l G xEX7_mayStand d [.ref a0, .ref a1] h (fun v h2 => (h2 = r.2 ∧ v = some (.int r.1)) ∧ LY r.2) := by
  refine XC.stat xsX7_mayStand (Nat.le_of_ble_eq_true rfl) ?_
  unfold f_p_mayStand at hf
  refine XS.go (s_aloadn rfl rfl rfl) ?_
  by_cases qk1 : a0 < hz h ∧ hk h a0 = 3
  rotate_left
  · rw [if_neg qk1] at hf; cases hf
  rw [if_pos qk1] at hf
  refine XS.go (s_getie rfl xf7_158 qk1.1 qk1.2 (by decide) rfl rfl) ?_
  refine XS.go (s_iconst (v := 5) rfl rfl) ?_
  refine r_icmp_ne (tgt := 22) rfl rfl (fun qc2 => ?_) (fun qc2 => ?_)
  · rw [if_pos qc2] at hf
    refine XS.go (s_aloadn rfl rfl rfl) ?_
    refine XS.go (s_getie rfl xf7_158 qk1.1 qk1.2 (by decide) rfl rfl) ?_
    refine XS.go (s_iconst (v := 3) rfl rfl) ?_
    refine r_icmp_ne (tgt := 38) rfl rfl (fun qc3 => ?_) (fun qc3 => ?_)
    · rw [if_pos qc3] at hf
      exact XR.forget (L2 := [none, none]) trivial (kb_p_mayStand_38 L0 hf)
    · rw [if_neg qc3] at hf
      refine XS.go (s_aloadn rfl rfl rfl) ?_
      by_cases qk4 : a1 < hz h ∧ hk h a1 = 2
      rotate_left
      · rw [if_neg qk4] at hf; cases hf
      rw [if_pos qk4] at hf
      refine XS.go (s_getie rfl xf7_161 qk4.1 qk4.2 (by decide) rfl rfl) ?_
      refine XS.go (s_iconst (v := 3) rfl rfl) ?_
      refine r_icmp_ne (tgt := 42) rfl rfl (fun qc5 => ?_) (fun qc5 => ?_)
      · rw [if_pos qc5] at hf
        refine XS.go (s_iconst (v := 0) rfl rfl) ?_
        cases hf
        exact XR.retz rfl rfl (by decide) (fun hret => ⟨_, hret, ⟨rfl, rfl⟩, L0⟩)
      · rw [if_neg qc5] at hf
        exact XR.forget (L2 := [none, none]) trivial (kb_p_mayStand_38 L0 hf)
  · rw [if_neg qc2] at hf
    refine XS.go (s_aloadn rfl rfl rfl) ?_
    by_cases qk6 : a1 < hz h ∧ hk h a1 = 2
    rotate_left
    · rw [if_neg qk6] at hf; cases hf
    rw [if_pos qk6] at hf
    refine XS.go (s_getie rfl xf7_161 qk6.1 qk6.2 (by decide) rfl rfl) ?_
    refine XS.go (s_iconst (v := 4) rfl rfl) ?_
    refine r_icmp_eq (tgt := 20) rfl rfl (fun qc7 => ?_) (fun qc7 => ?_)
    · rw [if_pos qc7] at hf
      refine XS.go (s_iconst (v := 0) rfl rfl) ?_
      cases hf
      exact XR.retz rfl rfl (by decide) (fun hret => ⟨_, hret, ⟨rfl, rfl⟩, L0⟩)
    · rw [if_neg qc7] at hf
      refine XS.go (s_iconst (v := 1) rfl rfl) ?_
      refine XS.go (s_goto (tgt := 21) rfl rfl) ?_
      cases hf
      exact XR.retz rfl rfl (by decide) (fun hret => ⟨_, hret, ⟨rfl, rfl⟩, L0⟩)
def b_p_resolve_41 (x0 : Nat) (x2 : Int32) (h : XH) : Option (Int32 × XH) := (if x0 < hz h ∧ hk h x0 = 7 then (match hr h x0 0 with | none => none | some b2 => (if b2 < hz h ∧ hk h b2 = 6 then (match f_x_place x2 (hsi h x0 7 5) with | none => none | some r5 => (if x0 < hz r5.2 ∧ hk r5.2 x0 = 7 then (some (0, (hsi r5.2 x0 8 r5.1))) else none)) else none)) else none)
set_option maxRecDepth 20000 in
theorem kb_p_resolve_41 {l : Launch} {G : XG} {d : Nat} {x0 : Nat} {x2 : Int32} {h : XH} {r : Int32 × XH} (L0 : LY h) (hf : b_p_resolve_41 x0 x2 h = some r) : XR l G xEX7_resolve (d + 1) (41, [some (.ref x0), none, some (.int x2), none], [], h) (fun C => ∃ v, xRet xEX7_resolve C v ∧ (C.2.2.2 = r.2 ∧ v = some (.int r.1)) ∧ LY r.2) := by
  unfold b_p_resolve_41 at hf
  refine XS.go (s_aloadn rfl rfl rfl) ?_
  refine XS.go (s_iconst (v := 5) rfl rfl) ?_
  by_cases qk1 : x0 < hz h ∧ hk h x0 = 7
  rotate_left
  · rw [if_neg qk1] at hf; cases hf
  rw [if_pos qk1] at hf
  refine XS.go (s_puti rfl xf7_34 qk1.1 qk1.2 (by decide) rfl (Or.inl rfl)) ?_
  refine XS.go (s_aloadn rfl rfl rfl) ?_
  refine XS.go (s_aloadn rfl rfl rfl) ?_
  rcases qr3 : hr h x0 0 with _ | b2
  · rw [qr3] at hf; cases hf
  rw [qr3] at hf; dsimp only at hf
  refine XS.go (s_getr rfl xf7_40 (by simp only [hz_hsi, hk_hsi, hz_hsj, hk_hsj]; exact qk1.1) (by simp only [hz_hsi, hk_hsi, hz_hsj, hk_hsj]; exact qk1.2) (by decide) rfl (by simp only [hr_hsi, hr_hsj]; exact qr3)) ?_
  refine XS.go (s_iloadn rfl rfl rfl) ?_
  by_cases qk4 : b2 < hz h ∧ hk h b2 = 6
  rotate_left
  · rw [if_neg qk4] at hf; cases hf
  rw [if_pos qk4] at hf
  rcases e6 : f_x_place x2 (hsi h x0 7 5) with _ | r5
  · rw [e6] at hf; cases hf
  rw [e6] at hf; dsimp only at hf
  refine r_callv rfl xvX6_place xm7_75 (kf_x_place (d := d) (by simp only [LY_si, LY_sj]; exact L0) e6) (by simp only [hz_hsi, hk_hsi, hz_hsj, hk_hsj]; exact qk4.1) (by simp only [hz_hsi, hk_hsi, hz_hsj, hk_hsj]; exact qk4.2) (by decide) rfl rfl (by omega) (by decide) (Nat.le_of_ble_eq_true rfl) ?_
  rintro _ _ ⟨⟨rfl, rfl⟩, L7⟩
  by_cases qk8 : x0 < hz r5.2 ∧ hk r5.2 x0 = 7
  rotate_left
  · rw [if_neg qk8] at hf; cases hf
  rw [if_pos qk8] at hf
  refine XS.go (s_puti rfl xf7_37 qk8.1 qk8.2 (by decide) rfl (Or.inl rfl)) ?_
  refine XS.go (s_iconst (v := 0) rfl rfl) ?_
  cases hf
  exact XR.retz rfl rfl (by decide) (fun hret => ⟨_, hret, ⟨rfl, rfl⟩, (by simp only [LY_si, LY_sj]; exact L7)⟩)
def f_p_resolve (t : Nat) (a0 : Nat) (h : XH) : Option (Int32 × XH) := (if a0 < hz h ∧ hk h a0 = 3 then (if t < hz h ∧ hk h t = 7 then (match hr h t 1 with | none => none | some b11 => (match hr h t 0 with | none => none | some b13 => (if b13 < hz h ∧ hk h b13 = 6 then (match f_x_head (hi h a0 2) h with | none => none | some r16 => (if t < hz r16.2 ∧ hk r16.2 t = 7 then (match hr r16.2 t 0 with | none => none | some b20 => (if b20 < hz r16.2 ∧ hk r16.2 b20 = 6 then (match f_x_tail (hi h a0 2) r16.2 with | none => none | some r23 => (if b11 < hz r23.2 ∧ hk r23.2 b11 = 9 then (match f_s_named b11 r16.1 r23.1 r23.2 with | none => none | some r27 => (match r27.1 with | none => (b_p_resolve_41 t (hi h a0 2) r27.2) | some b31 => (match f_p_mayStand a0 b31 r27.2 with | none => none | some r32 => (if ¬ r32.1 = 0 then (if b31 < hz r32.2 ∧ hk r32.2 b31 = 2 then (if a0 < hz r32.2 ∧ hk r32.2 a0 = 3 then (if ¬ (hi r32.2 a0 3) = 5 then (some (1, (hsi (hsi r32.2 a0 4 (hi r32.2 b31 1)) a0 3 (hi r32.2 b31 0)))) else (some (1, (hsi (hsi r32.2 a0 4 (hi r32.2 b31 1)) a0 5 (hi r32.2 b31 0))))) else none) else none) else (b_p_resolve_41 t (hi h a0 2) r32.2))))) else none)) else none)) else none)) else none))) else none) else none)
set_option maxRecDepth 20000 in
theorem kf_p_resolve {l : Launch} {G : XG} {d : Nat} {t : Nat} {a0 : Nat} {h : XH} {r : Int32 × XH} (L0 : LY h) (hf : f_p_resolve t a0 h = some r) : XC l G xEX7_resolve (d + 1) [.ref t, .ref a0] h (fun v h2 => (h2 = r.2 ∧ v = some (.int r.1)) ∧ LY r.2) := by
  refine XC.virt xvX7_resolve (Nat.le_of_ble_eq_true rfl) ?_
  unfold f_p_resolve at hf
  refine XS.go (s_aloadn rfl rfl rfl) ?_
  by_cases qk9 : a0 < hz h ∧ hk h a0 = 3
  rotate_left
  · rw [if_neg qk9] at hf; cases hf
  rw [if_pos qk9] at hf
  refine XS.go (s_getie rfl xf7_226 qk9.1 qk9.2 (by decide) rfl rfl) ?_
  refine XS.go (s_istoren rfl rfl (Nat.le_of_ble_eq_true rfl)) ?_
  refine XS.go (s_aloadn rfl rfl rfl) ?_
  by_cases qk10 : t < hz h ∧ hk h t = 7
  rotate_left
  · rw [if_neg qk10] at hf; cases hf
  rw [if_pos qk10] at hf
  rcases qr12 : hr h t 1 with _ | b11
  · rw [qr12] at hf; cases hf
  rw [qr12] at hf; dsimp only at hf
  refine XS.go (s_getr rfl xf7_44 qk10.1 qk10.2 (by decide) rfl qr12) ?_
  refine XS.go (s_aloadn rfl rfl rfl) ?_
  rcases qr14 : hr h t 0 with _ | b13
  · rw [qr14] at hf; cases hf
  rw [qr14] at hf; dsimp only at hf
  refine XS.go (s_getr rfl xf7_40 qk10.1 qk10.2 (by decide) rfl qr14) ?_
  refine XS.go (s_iloadn rfl rfl rfl) ?_
  by_cases qk15 : b13 < hz h ∧ hk h b13 = 6
  rotate_left
  · rw [if_neg qk15] at hf; cases hf
  rw [if_pos qk15] at hf
  rcases e17 : f_x_head (hi h a0 2) h with _ | r16
  · rw [e17] at hf; cases hf
  rw [e17] at hf; dsimp only at hf
  refine r_callv rfl xvX6_head xm7_109 (kf_x_head (d := d) L0 e17) qk15.1 qk15.2 (by decide) rfl rfl (by omega) (by decide) (Nat.le_of_ble_eq_true rfl) ?_
  rintro _ _ ⟨⟨rfl, rfl⟩, L18⟩
  refine XS.go (s_aloadn rfl rfl rfl) ?_
  by_cases qk19 : t < hz r16.2 ∧ hk r16.2 t = 7
  rotate_left
  · rw [if_neg qk19] at hf; cases hf
  rw [if_pos qk19] at hf
  rcases qr21 : hr r16.2 t 0 with _ | b20
  · rw [qr21] at hf; cases hf
  rw [qr21] at hf; dsimp only at hf
  refine XS.go (s_getr rfl xf7_40 qk19.1 qk19.2 (by decide) rfl qr21) ?_
  refine XS.go (s_iloadn rfl rfl rfl) ?_
  by_cases qk22 : b20 < hz r16.2 ∧ hk r16.2 b20 = 6
  rotate_left
  · rw [if_neg qk22] at hf; cases hf
  rw [if_pos qk22] at hf
  rcases e24 : f_x_tail (hi h a0 2) r16.2 with _ | r23
  · rw [e24] at hf; cases hf
  rw [e24] at hf; dsimp only at hf
  refine r_callv rfl xvX6_tail xm7_113 (kf_x_tail (d := d) L18 e24) qk22.1 qk22.2 (by decide) rfl rfl (by omega) (by decide) (Nat.le_of_ble_eq_true rfl) ?_
  rintro _ _ ⟨⟨rfl, rfl⟩, L25⟩
  by_cases qk26 : b11 < hz r23.2 ∧ hk r23.2 b11 = 9
  rotate_left
  · rw [if_neg qk26] at hf; cases hf
  rw [if_pos qk26] at hf
  rcases e28 : f_s_named b11 r16.1 r23.1 r23.2 with _ | r27
  · rw [e28] at hf; cases hf
  rw [e28] at hf; dsimp only at hf
  refine r_callv rfl xvX9_named xm7_116 (kf_s_named (d := d) L25 e28) qk26.1 qk26.2 (by decide) rfl rfl (by omega) (by decide) (Nat.le_of_ble_eq_true rfl) ?_
  rintro _ _ ⟨⟨rfl, rfl⟩, L29⟩
  refine XS.go (s_astorenO rfl rfl (Nat.le_of_ble_eq_true rfl)) ?_
  refine XS.go (s_aloadnO rfl rfl rfl) ?_
  refine r_ifnull (tgt := 41) rfl rfl (fun qn30 => ?_) (fun b31 qn30 => ?_)
  · rw [qn30] at hf; dsimp only at hf; try rw [qn30]
    exact XR.forget (L2 := [some (.ref t), none, some (.int (hi h a0 2)), none]) ⟨rfl, ⟨rfl, trivial⟩⟩ (kb_p_resolve_41 L29 hf)
  · rw [qn30] at hf; dsimp only at hf; try rw [qn30]
    refine XS.go (s_aloadn rfl rfl rfl) ?_
    refine XS.go (s_aloadn rfl rfl rfl) ?_
    rcases e33 : f_p_mayStand a0 b31 r27.2 with _ | r32
    · rw [e33] at hf; cases hf
    rw [e33] at hf; dsimp only at hf
    refine r_calls rfl xsX7_mayStand xm7_247 (kf_p_mayStand (d := d) L29 e33) rfl rfl (by omega) (by decide) (Nat.le_of_ble_eq_true rfl) ?_
    rintro _ _ ⟨⟨rfl, rfl⟩, L34⟩
    refine r_if_ne (tgt := 60) rfl rfl (fun qc35 => ?_) (fun qc35 => ?_)
    · rw [if_pos qc35] at hf
      refine XS.go (s_aloadn rfl rfl rfl) ?_
      refine XS.go (s_aloadn rfl rfl rfl) ?_
      by_cases qk36 : b31 < hz r32.2 ∧ hk r32.2 b31 = 2
      rotate_left
      · rw [if_neg qk36] at hf; cases hf
      rw [if_pos qk36] at hf
      refine XS.go (s_getie rfl xf7_162 qk36.1 qk36.2 (by decide) rfl rfl) ?_
      by_cases qk37 : a0 < hz r32.2 ∧ hk r32.2 a0 = 3
      rotate_left
      · rw [if_neg qk37] at hf; cases hf
      rw [if_pos qk37] at hf
      refine XS.go (s_puti rfl xf7_69 qk37.1 qk37.2 (by decide) rfl (Or.inl rfl)) ?_
      refine XS.go (s_aloadn rfl rfl rfl) ?_
      refine XS.go (s_getie rfl xf7_158 (by simp only [hz_hsi, hk_hsi, hz_hsj, hk_hsj]; exact qk37.1) (by simp only [hz_hsi, hk_hsi, hz_hsj, hk_hsj]; exact qk37.2) (by decide) rfl (hi_hsi_nk (by decide))) ?_
      refine XS.go (s_iconst (v := 5) rfl rfl) ?_
      refine r_icmp_ne (tgt := 87) rfl rfl (fun qc38 => ?_) (fun qc38 => ?_)
      · rw [if_pos qc38] at hf
        refine XS.go (s_aloadn rfl rfl rfl) ?_
        refine XS.go (s_aloadn rfl rfl rfl) ?_
        refine XS.go (s_getie rfl xf7_161 (by simp only [hz_hsi, hk_hsi, hz_hsj, hk_hsj]; exact qk36.1) (by simp only [hz_hsi, hk_hsi, hz_hsj, hk_hsj]; exact qk36.2) (by decide) rfl (hi_hsi_nk (by decide))) ?_
        refine XS.go (s_puti rfl xf7_158 (by simp only [hz_hsi, hk_hsi, hz_hsj, hk_hsj]; exact qk37.1) (by simp only [hz_hsi, hk_hsi, hz_hsj, hk_hsj]; exact qk37.2) (by decide) rfl (Or.inl rfl)) ?_
        refine XS.go (s_iconst (v := 1) rfl rfl) ?_
        cases hf
        exact XR.retz rfl rfl (by decide) (fun hret => ⟨_, hret, ⟨rfl, rfl⟩, (by simp only [LY_si, LY_sj]; exact L34)⟩)
      · rw [if_neg qc38] at hf
        refine XS.go (s_aloadn rfl rfl rfl) ?_
        refine XS.go (s_aloadn rfl rfl rfl) ?_
        refine XS.go (s_getie rfl xf7_161 (by simp only [hz_hsi, hk_hsi, hz_hsj, hk_hsj]; exact qk36.1) (by simp only [hz_hsi, hk_hsi, hz_hsj, hk_hsj]; exact qk36.2) (by decide) rfl (hi_hsi_nk (by decide))) ?_
        refine XS.go (s_puti rfl xf7_223 (by simp only [hz_hsi, hk_hsi, hz_hsj, hk_hsj]; exact qk37.1) (by simp only [hz_hsi, hk_hsi, hz_hsj, hk_hsj]; exact qk37.2) (by decide) rfl (Or.inl rfl)) ?_
        refine XS.go (s_goto (tgt := 95) rfl rfl) ?_
        refine XS.go (s_iconst (v := 1) rfl rfl) ?_
        cases hf
        exact XR.retz rfl rfl (by decide) (fun hret => ⟨_, hret, ⟨rfl, rfl⟩, (by simp only [LY_si, LY_sj]; exact L34)⟩)
    · rw [if_neg qc35] at hf
      exact XR.forget (L2 := [some (.ref t), none, some (.int (hi h a0 2)), none]) ⟨rfl, ⟨rfl, trivial⟩⟩ (kb_p_resolve_41 L34 hf)
def b_p_resolveAll_40 (K2 : Nat → Int32 → XH → Option (Int32 × XH)) (x0 : Nat) (x1 : Int32) (h : XH) : Option (Int32 × XH) := (K2 x0 (x1 + 1) h)
set_option maxRecDepth 20000 in
theorem kb_p_resolveAll_40 {l : Launch} {G : XG} {d : Nat} {K2 : Nat → Int32 → XH → Option (Int32 × XH)} {x0 : Nat} {x1 : Int32} {h : XH} {r : Int32 × XH} (hK2 : ∀ (x0 : Nat) (x1 : Int32) (h : XH), LY h → K2 x0 x1 h = some r → XR l G xEX7_resolveAll (d + 2) (2, [some (.ref x0), some (.int x1), none], [], h) (fun C => ∃ v, xRet xEX7_resolveAll C v ∧ (C.2.2.2 = r.2 ∧ v = some (.int r.1)) ∧ LY r.2)) (L0 : LY h) (hf : b_p_resolveAll_40 K2 x0 x1 h = some r) : XR l G xEX7_resolveAll (d + 2) (40, [some (.ref x0), some (.int x1), none], [], h) (fun C => ∃ v, xRet xEX7_resolveAll C v ∧ (C.2.2.2 = r.2 ∧ v = some (.int r.1)) ∧ LY r.2) := by
  unfold b_p_resolveAll_40 at hf
  refine XS.go (s_inc rfl rfl (Nat.le_of_ble_eq_true rfl)) ?_
  refine XS.go (s_goto (tgt := 2) rfl rfl) ?_
  exact XR.forget (L2 := [some (.ref x0), some (.int (x1 + 1)), none]) ⟨rfl, ⟨rfl, trivial⟩⟩ (hK2 x0 (x1 + 1) _ L0 hf)
def s_p_resolveAll_2 (K2 : Nat → Int32 → XH → Option (Int32 × XH)) (x0 : Nat) (x1 : Int32) (h : XH) : Option (Int32 × XH) := (if x0 < hz h ∧ hk h x0 = 7 then (if (hi h x0 3) ≤ x1 then (some (1, h)) else (match hr h x0 2 with | none => none | some b3 => (if b3 < hz h ∧ hk h b3 = 104 then (if (nI (hn h b3)) ≤ x1 then (some (1, h)) else (if 0 ≤ x1 ∧ x1 < nI (hn h b3) ∧ (hn h b3) < 2 ^ 31 then (match hr h b3 (Int32.toNatClampNeg x1) with | none => none | some b8 => (match f_p_resolve x0 b8 h with | none => none | some r10 => (if ¬ r10.1 = 0 then (b_p_resolveAll_40 K2 x0 x1 r10.2) else (some (0, r10.2))))) else none)) else none))) else none)
set_option maxRecDepth 20000 in
theorem ks_p_resolveAll_2 {l : Launch} {G : XG} {d : Nat} {K2 : Nat → Int32 → XH → Option (Int32 × XH)} {x0 : Nat} {x1 : Int32} {h : XH} {r : Int32 × XH} (hK2 : ∀ (x0 : Nat) (x1 : Int32) (h : XH), LY h → K2 x0 x1 h = some r → XR l G xEX7_resolveAll (d + 2) (2, [some (.ref x0), some (.int x1), none], [], h) (fun C => ∃ v, xRet xEX7_resolveAll C v ∧ (C.2.2.2 = r.2 ∧ v = some (.int r.1)) ∧ LY r.2)) (L0 : LY h) (hf : s_p_resolveAll_2 K2 x0 x1 h = some r) : XR l G xEX7_resolveAll (d + 2) (2, [some (.ref x0), some (.int x1), none], [], h) (fun C => ∃ v, xRet xEX7_resolveAll C v ∧ (C.2.2.2 = r.2 ∧ v = some (.int r.1)) ∧ LY r.2) := by
  unfold s_p_resolveAll_2 at hf
  refine XS.go (s_iloadn rfl rfl rfl) ?_
  refine XS.go (s_aloadn rfl rfl rfl) ?_
  by_cases qk1 : x0 < hz h ∧ hk h x0 = 7
  rotate_left
  · rw [if_neg qk1] at hf; cases hf
  rw [if_pos qk1] at hf
  refine XS.go (s_getie rfl xf7_17 qk1.1 qk1.2 (by decide) rfl rfl) ?_
  refine r_icmp_ge (tgt := 46) rfl rfl (fun qc2 => ?_) (fun qc2 => ?_)
  · rw [if_pos qc2] at hf
    refine XS.go (s_iconst (v := 1) rfl rfl) ?_
    cases hf
    exact XR.retz rfl rfl (by decide) (fun hret => ⟨_, hret, ⟨rfl, rfl⟩, L0⟩)
  · rw [if_neg qc2] at hf
    refine XS.go (s_iloadn rfl rfl rfl) ?_
    refine XS.go (s_aloadn rfl rfl rfl) ?_
    rcases qr4 : hr h x0 2 with _ | b3
    · rw [qr4] at hf; cases hf
    rw [qr4] at hf; dsimp only at hf
    refine XS.go (s_getr rfl xf7_13 qk1.1 qk1.2 (by decide) rfl qr4) ?_
    by_cases qk5 : b3 < hz h ∧ hk h b3 = 104
    rotate_left
    · rw [if_neg qk5] at hf; cases hf
    rw [if_pos qk5] at hf
    refine XS.go (s_alene rfl qk5.1 qk5.2 rfl (by decide)) ?_
    refine r_icmp_ge (tgt := 46) rfl rfl (fun qc6 => ?_) (fun qc6 => ?_)
    · rw [if_pos qc6] at hf
      refine XS.go (s_iconst (v := 1) rfl rfl) ?_
      cases hf
      exact XR.retz rfl rfl (by decide) (fun hret => ⟨_, hret, ⟨rfl, rfl⟩, L0⟩)
    · rw [if_neg qc6] at hf
      refine XS.go (s_aloadn rfl rfl rfl) ?_
      refine XS.go (s_getr rfl xf7_13 qk1.1 qk1.2 (by decide) rfl qr4) ?_
      refine XS.go (s_iloadn rfl rfl rfl) ?_
      by_cases qk7 : 0 ≤ x1 ∧ x1 < nI (hn h b3) ∧ (hn h b3) < 2 ^ 31
      rotate_left
      · rw [if_neg qk7] at hf; cases hf
      rw [if_pos qk7] at hf
      rcases qr9 : hr h b3 (Int32.toNatClampNeg x1) with _ | b8
      · rw [qr9] at hf; cases hf
      rw [qr9] at hf; dsimp only at hf
      refine XS.go (s_aald104e rfl qk5.1 qk5.2 (inLit (N := hn h b3) rfl qk7.1 qk7.2.1 qk7.2.2) qr9) ?_
      refine XS.go (s_astoren rfl rfl (Nat.le_of_ble_eq_true rfl)) ?_
      refine XS.go (s_aloadn rfl rfl rfl) ?_
      refine XS.go (s_ifnull_r rfl) ?_
      refine XS.go (s_aloadn rfl rfl rfl) ?_
      refine XS.go (s_aloadn rfl rfl rfl) ?_
      rcases e11 : f_p_resolve x0 b8 h with _ | r10
      · rw [e11] at hf; cases hf
      rw [e11] at hf; dsimp only at hf
      refine r_callv rfl xvX7_resolve xm7_244 (kf_p_resolve (d := d) L0 e11) qk1.1 qk1.2 (by decide) rfl rfl (by omega) (by decide) (Nat.le_of_ble_eq_true rfl) ?_
      rintro _ _ ⟨⟨rfl, rfl⟩, L12⟩
      refine r_if_ne (tgt := 40) rfl rfl (fun qc13 => ?_) (fun qc13 => ?_)
      · rw [if_pos qc13] at hf
        exact XR.forget (L2 := [some (.ref x0), some (.int x1), none]) ⟨rfl, ⟨rfl, trivial⟩⟩ (kb_p_resolveAll_40 hK2 L12 hf)
      · rw [if_neg qc13] at hf
        refine XS.go (s_iconst (v := 0) rfl rfl) ?_
        cases hf
        exact XR.retz rfl rfl (by decide) (fun hret => ⟨_, hret, ⟨rfl, rfl⟩, L12⟩)
def b_p_resolveAll_2 : Nat → Nat → Int32 → XH → Option (Int32 × XH)
  | 0, _, _, _ => none
  | n + 1, x0, x1, h => s_p_resolveAll_2 (b_p_resolveAll_2 n) x0 x1 h
theorem kb_p_resolveAll_2 {l : Launch} {G : XG} {d : Nat} {n : Nat} {x0 : Nat} {x1 : Int32} {h : XH} {r : Int32 × XH} (L0 : LY h) (hf : b_p_resolveAll_2 n x0 x1 h = some r) : XR l G xEX7_resolveAll (d + 2) (2, [some (.ref x0), some (.int x1), none], [], h) (fun C => ∃ v, xRet xEX7_resolveAll C v ∧ (C.2.2.2 = r.2 ∧ v = some (.int r.1)) ∧ LY r.2) := by
  induction n generalizing x0 x1 h with
  | zero => cases hf
  | succ n ih => exact ks_p_resolveAll_2 (fun x0 x1 h L0 hf => ih (h := h) (x0 := x0) (x1 := x1) L0 hf) L0 hf
def f_p_resolveAll (t : Nat) (h : XH) : Option (Int32 × XH) := (b_p_resolveAll_2 100000 t 0 h)
set_option maxRecDepth 20000 in
theorem kf_p_resolveAll {l : Launch} {G : XG} {d : Nat} {t : Nat} {h : XH} {r : Int32 × XH} (L0 : LY h) (hf : f_p_resolveAll t h = some r) : XC l G xEX7_resolveAll (d + 2) [.ref t] h (fun v h2 => (h2 = r.2 ∧ v = some (.int r.1)) ∧ LY r.2) := by
  refine XC.virt xvX7_resolveAll (Nat.le_of_ble_eq_true rfl) ?_
  unfold f_p_resolveAll at hf
  refine XS.go (s_iconst (v := 0) rfl rfl) ?_
  refine XS.go (s_istoren rfl rfl (Nat.le_of_ble_eq_true rfl)) ?_
  exact XR.forget (L2 := [some (.ref t), some (.int 0), none]) ⟨rfl, ⟨rfl, trivial⟩⟩ (kb_p_resolveAll_2 L0 hf)
def f_s_restart (t : Nat) (h : XH) : Option (Unit × XH) := (if t < hz h ∧ hk h t = 9 then (match hr h t 0 with | none => none | some b2 => (if b2 < hz h ∧ hk h b2 = 4 then (match hr h t 1 with | none => none | some b5 => (if b5 < hz h ∧ hk h b5 = 4 then (match hr h t 2 with | none => none | some b8 => (if b8 < hz h ∧ hk h b8 = 4 then (some ((), (hsi (hsi (hsi (hsi (hsi h b2 1 0) b5 1 0) b8 1 0) t 4 0) t 5 (-1)))) else none)) else none)) else none)) else none)
set_option maxRecDepth 20000 in
theorem kf_s_restart {l : Launch} {G : XG} {d : Nat} {t : Nat} {h : XH} {r : Unit × XH} (L0 : LY h) (hf : f_s_restart t h = some r) : XC l G xEX9_restart d [.ref t] h (fun v h2 => (h2 = r.2 ∧ v = none) ∧ LY r.2) := by
  refine XC.virt xvX9_restart (Nat.le_of_ble_eq_true rfl) ?_
  unfold f_s_restart at hf
  refine XS.go (s_aloadn rfl rfl rfl) ?_
  by_cases qk1 : t < hz h ∧ hk h t = 9
  rotate_left
  · rw [if_neg qk1] at hf; cases hf
  rw [if_pos qk1] at hf
  rcases qr3 : hr h t 0 with _ | b2
  · rw [qr3] at hf; cases hf
  rw [qr3] at hf; dsimp only at hf
  refine XS.go (s_getr rfl xf9_14 qk1.1 qk1.2 (by decide) rfl qr3) ?_
  refine XS.go (s_iconst (v := 0) rfl rfl) ?_
  by_cases qk4 : b2 < hz h ∧ hk h b2 = 4
  rotate_left
  · rw [if_neg qk4] at hf; cases hf
  rw [if_pos qk4] at hf
  refine XS.go (s_puti rfl xf9_39 qk4.1 qk4.2 (by decide) rfl (Or.inl rfl)) ?_
  refine XS.go (s_aloadn rfl rfl rfl) ?_
  rcases qr6 : hr h t 1 with _ | b5
  · rw [qr6] at hf; cases hf
  rw [qr6] at hf; dsimp only at hf
  refine XS.go (s_getr rfl xf9_20 (by simp only [hz_hsi, hk_hsi, hz_hsj, hk_hsj]; exact qk1.1) (by simp only [hz_hsi, hk_hsi, hz_hsj, hk_hsj]; exact qk1.2) (by decide) rfl (by simp only [hr_hsi, hr_hsj]; exact qr6)) ?_
  refine XS.go (s_iconst (v := 0) rfl rfl) ?_
  by_cases qk7 : b5 < hz h ∧ hk h b5 = 4
  rotate_left
  · rw [if_neg qk7] at hf; cases hf
  rw [if_pos qk7] at hf
  refine XS.go (s_puti rfl xf9_39 (by simp only [hz_hsi, hk_hsi, hz_hsj, hk_hsj]; exact qk7.1) (by simp only [hz_hsi, hk_hsi, hz_hsj, hk_hsj]; exact qk7.2) (by decide) rfl (Or.inl rfl)) ?_
  refine XS.go (s_aloadn rfl rfl rfl) ?_
  rcases qr9 : hr h t 2 with _ | b8
  · rw [qr9] at hf; cases hf
  rw [qr9] at hf; dsimp only at hf
  refine XS.go (s_getr rfl xf9_23 (by simp only [hz_hsi, hk_hsi, hz_hsj, hk_hsj]; exact qk1.1) (by simp only [hz_hsi, hk_hsi, hz_hsj, hk_hsj]; exact qk1.2) (by decide) rfl (by simp only [hr_hsi, hr_hsj]; exact qr9)) ?_
  refine XS.go (s_iconst (v := 0) rfl rfl) ?_
  by_cases qk10 : b8 < hz h ∧ hk h b8 = 4
  rotate_left
  · rw [if_neg qk10] at hf; cases hf
  rw [if_pos qk10] at hf
  refine XS.go (s_puti rfl xf9_39 (by simp only [hz_hsi, hk_hsi, hz_hsj, hk_hsj]; exact qk10.1) (by simp only [hz_hsi, hk_hsi, hz_hsj, hk_hsj]; exact qk10.2) (by decide) rfl (Or.inl rfl)) ?_
  refine XS.go (s_aloadn rfl rfl rfl) ?_
  refine XS.go (s_iconst (v := 0) rfl rfl) ?_
  refine XS.go (s_puti rfl xf9_32 (by simp only [hz_hsi, hk_hsi, hz_hsj, hk_hsj]; exact qk1.1) (by simp only [hz_hsi, hk_hsi, hz_hsj, hk_hsj]; exact qk1.2) (by decide) rfl (Or.inl rfl)) ?_
  refine XS.go (s_aloadn rfl rfl rfl) ?_
  refine XS.go (s_iconst (v := (-1)) rfl rfl) ?_
  refine XS.go (s_puti rfl xf9_36 (by simp only [hz_hsi, hk_hsi, hz_hsj, hk_hsj]; exact qk1.1) (by simp only [hz_hsi, hk_hsi, hz_hsj, hk_hsj]; exact qk1.2) (by decide) rfl (Or.inl rfl)) ?_
  cases hf
  exact XR.retv rfl rfl (fun hret => ⟨_, hret, ⟨rfl, rfl⟩, (by simp only [LY_si, LY_sj]; exact L0)⟩)
def b_p_parse_55 (x0 : Nat) (h : XH) : Option (Int32 × XH) := (if x0 < hz h ∧ hk h x0 = 7 then (match f_p_readRoot x0 h with | none => none | some r2 => (if r2.1 = 0 then (some (0, r2.2)) else (if x0 < hz r2.2 ∧ hk r2.2 x0 = 7 then (match f_p_resolveAll x0 r2.2 with | none => none | some r7 => (if ¬ r7.1 = 0 then (if x0 < hz r7.2 ∧ hk r7.2 x0 = 7 then (match f_p_numberAllSlots x0 r7.2 with | none => none | some r12 => (if x0 < hz r12.2 ∧ hk r12.2 x0 = 7 then (match hr r12.2 x0 1 with | none => none | some b16 => (match hr r12.2 x0 4 with | none => none | some b18 => (if b18 < hz r12.2 ∧ hk r12.2 b18 = 3 then (if b16 < hz r12.2 ∧ hk r12.2 b16 = 9 then (some (1, (hsi r12.2 b16 5 (hi r12.2 b18 4)))) else none) else none))) else none)) else none) else (some (0, r7.2)))) else none))) else none)
set_option maxRecDepth 20000 in
theorem kb_p_parse_55 {l : Launch} {G : XG} {d : Nat} {x0 : Nat} {h : XH} {r : Int32 × XH} (L0 : LY h) (hf : b_p_parse_55 x0 h = some r) : XR l G xEX7_parse (d + 6) (55, [some (.ref x0), none], [], h) (fun C => ∃ v, xRet xEX7_parse C v ∧ (C.2.2.2 = r.2 ∧ v = some (.int r.1)) ∧ LY r.2) := by
  unfold b_p_parse_55 at hf
  refine XS.go (s_aloadn rfl rfl rfl) ?_
  by_cases qk1 : x0 < hz h ∧ hk h x0 = 7
  rotate_left
  · rw [if_neg qk1] at hf; cases hf
  rw [if_pos qk1] at hf
  rcases e3 : f_p_readRoot x0 h with _ | r2
  · rw [e3] at hf; cases hf
  rw [e3] at hf; dsimp only at hf
  refine r_callv rfl xvX7_readRoot xm7_60 (kf_p_readRoot (d := d) L0 e3) qk1.1 qk1.2 (by decide) rfl rfl (by omega) (by decide) (Nat.le_of_ble_eq_true rfl) ?_
  rintro _ _ ⟨⟨rfl, rfl⟩, L4⟩
  refine r_if_eq (tgt := 69) rfl rfl (fun qc5 => ?_) (fun qc5 => ?_)
  · rw [if_pos qc5] at hf
    refine XS.go (s_iconst (v := 0) rfl rfl) ?_
    cases hf
    exact XR.retz rfl rfl (by decide) (fun hret => ⟨_, hret, ⟨rfl, rfl⟩, L4⟩)
  · rw [if_neg qc5] at hf
    refine XS.go (s_aloadn rfl rfl rfl) ?_
    by_cases qk6 : x0 < hz r2.2 ∧ hk r2.2 x0 = 7
    rotate_left
    · rw [if_neg qk6] at hf; cases hf
    rw [if_pos qk6] at hf
    rcases e8 : f_p_resolveAll x0 r2.2 with _ | r7
    · rw [e8] at hf; cases hf
    rw [e8] at hf; dsimp only at hf
    refine r_callv rfl xvX7_resolveAll xm7_63 (kf_p_resolveAll (d := d) L4 e8) qk6.1 qk6.2 (by decide) rfl rfl (by omega) (by decide) (Nat.le_of_ble_eq_true rfl) ?_
    rintro _ _ ⟨⟨rfl, rfl⟩, L9⟩
    refine r_if_ne (tgt := 71) rfl rfl (fun qc10 => ?_) (fun qc10 => ?_)
    · rw [if_pos qc10] at hf
      refine XS.go (s_aloadn rfl rfl rfl) ?_
      by_cases qk11 : x0 < hz r7.2 ∧ hk r7.2 x0 = 7
      rotate_left
      · rw [if_neg qk11] at hf; cases hf
      rw [if_pos qk11] at hf
      rcases e13 : f_p_numberAllSlots x0 r7.2 with _ | r12
      · rw [e13] at hf; cases hf
      rw [e13] at hf; dsimp only at hf
      refine r_callv rfl xvX7_numberAllSlots xm7_66 (kf_p_numberAllSlots (d := d) L9 e13) qk11.1 qk11.2 (by decide) rfl rfl (by omega) (by decide) (Nat.le_of_ble_eq_true rfl) ?_
      rintro _ _ ⟨⟨rfl, rfl⟩, L14⟩
      refine XS.go (s_aloadn rfl rfl rfl) ?_
      by_cases qk15 : x0 < hz r12.2 ∧ hk r12.2 x0 = 7
      rotate_left
      · rw [if_neg qk15] at hf; cases hf
      rw [if_pos qk15] at hf
      rcases qr17 : hr r12.2 x0 1 with _ | b16
      · rw [qr17] at hf; cases hf
      rw [qr17] at hf; dsimp only at hf
      refine XS.go (s_getr rfl xf7_44 qk15.1 qk15.2 (by decide) rfl qr17) ?_
      refine XS.go (s_aloadn rfl rfl rfl) ?_
      rcases qr19 : hr r12.2 x0 4 with _ | b18
      · rw [qr19] at hf; cases hf
      rw [qr19] at hf; dsimp only at hf
      refine XS.go (s_getr rfl xf7_22 qk15.1 qk15.2 (by decide) rfl qr19) ?_
      by_cases qk20 : b18 < hz r12.2 ∧ hk r12.2 b18 = 3
      rotate_left
      · rw [if_neg qk20] at hf; cases hf
      rw [if_pos qk20] at hf
      refine XS.go (s_getie rfl xf7_69 qk20.1 qk20.2 (by decide) rfl rfl) ?_
      by_cases qk21 : b16 < hz r12.2 ∧ hk r12.2 b16 = 9
      rotate_left
      · rw [if_neg qk21] at hf; cases hf
      rw [if_pos qk21] at hf
      refine XS.go (s_puti rfl xf7_72 qk21.1 qk21.2 (by decide) rfl (Or.inl rfl)) ?_
      refine XS.go (s_iconst (v := 1) rfl rfl) ?_
      cases hf
      exact XR.retz rfl rfl (by decide) (fun hret => ⟨_, hret, ⟨rfl, rfl⟩, (by simp only [LY_si, LY_sj]; exact L14)⟩)
    · rw [if_neg qc10] at hf
      refine XS.go (s_iconst (v := 0) rfl rfl) ?_
      cases hf
      exact XR.retz rfl rfl (by decide) (fun hret => ⟨_, hret, ⟨rfl, rfl⟩, L9⟩)
def s_p_parse_24 (K24 : Nat → Int32 → XH → Option (Int32 × XH)) (x0 : Nat) (x1 : Int32) (h : XH) : Option (Int32 × XH) := (if x0 < hz h ∧ hk h x0 = 7 then (if (hi h x0 6) = 9 then (b_p_parse_55 x0 h) else (if 4000 < x1 then (b_p_parse_55 x0 h) else (match f_p_readDefinition x0 h with | none => none | some r25 => (if ¬ r25.1 = 0 then (K24 x0 (x1 + 1) r25.2) else (some (0, r25.2)))))) else none)
set_option maxRecDepth 20000 in
theorem ks_p_parse_24 {l : Launch} {G : XG} {d : Nat} {K24 : Nat → Int32 → XH → Option (Int32 × XH)} {x0 : Nat} {x1 : Int32} {h : XH} {r : Int32 × XH} (hK24 : ∀ (x0 : Nat) (x1 : Int32) (h : XH), LY h → K24 x0 x1 h = some r → XR l G xEX7_parse (d + 6) (24, [some (.ref x0), some (.int x1)], [], h) (fun C => ∃ v, xRet xEX7_parse C v ∧ (C.2.2.2 = r.2 ∧ v = some (.int r.1)) ∧ LY r.2)) (L0 : LY h) (hf : s_p_parse_24 K24 x0 x1 h = some r) : XR l G xEX7_parse (d + 6) (24, [some (.ref x0), some (.int x1)], [], h) (fun C => ∃ v, xRet xEX7_parse C v ∧ (C.2.2.2 = r.2 ∧ v = some (.int r.1)) ∧ LY r.2) := by
  unfold s_p_parse_24 at hf
  refine XS.go (s_aloadn rfl rfl rfl) ?_
  by_cases qk22 : x0 < hz h ∧ hk h x0 = 7
  rotate_left
  · rw [if_neg qk22] at hf; cases hf
  rw [if_pos qk22] at hf
  refine XS.go (s_getie rfl xf7_31 qk22.1 qk22.2 (by decide) rfl rfl) ?_
  refine XS.go (s_bipush (v := 9) rfl rfl) ?_
  refine r_icmp_eq (tgt := 55) rfl rfl (fun qc23 => ?_) (fun qc23 => ?_)
  · rw [if_pos qc23] at hf
    exact XR.forget (L2 := [some (.ref x0), none]) ⟨rfl, trivial⟩ (kb_p_parse_55 L0 hf)
  · rw [if_neg qc23] at hf
    refine XS.go (s_iloadn rfl rfl rfl) ?_
    refine XS.go (s_sipush (v := 4000) rfl rfl) ?_
    refine r_icmp_gt (tgt := 55) rfl rfl (fun qc24 => ?_) (fun qc24 => ?_)
    · rw [if_pos qc24] at hf
      exact XR.forget (L2 := [some (.ref x0), none]) ⟨rfl, trivial⟩ (kb_p_parse_55 L0 hf)
    · rw [if_neg qc24] at hf
      refine XS.go (s_aloadn rfl rfl rfl) ?_
      rcases e26 : f_p_readDefinition x0 h with _ | r25
      · rw [e26] at hf; cases hf
      rw [e26] at hf; dsimp only at hf
      refine r_callv rfl xvX7_readDefinition xm7_56 (kf_p_readDefinition (d := d) L0 e26) qk22.1 qk22.2 (by decide) rfl rfl (by omega) (by decide) (Nat.le_of_ble_eq_true rfl) ?_
      rintro _ _ ⟨⟨rfl, rfl⟩, L27⟩
      refine r_if_ne (tgt := 49) rfl rfl (fun qc28 => ?_) (fun qc28 => ?_)
      · rw [if_pos qc28] at hf
        refine XS.go (s_inc rfl rfl (Nat.le_of_ble_eq_true rfl)) ?_
        refine XS.go (s_goto (tgt := 24) rfl rfl) ?_
        exact XR.forget (L2 := [some (.ref x0), some (.int (x1 + 1))]) ⟨rfl, ⟨rfl, trivial⟩⟩ (hK24 x0 (x1 + 1) _ L27 hf)
      · rw [if_neg qc28] at hf
        refine XS.go (s_iconst (v := 0) rfl rfl) ?_
        cases hf
        exact XR.retz rfl rfl (by decide) (fun hret => ⟨_, hret, ⟨rfl, rfl⟩, L27⟩)
def b_p_parse_24 : Nat → Nat → Int32 → XH → Option (Int32 × XH)
  | 0, _, _, _ => none
  | n + 1, x0, x1, h => s_p_parse_24 (b_p_parse_24 n) x0 x1 h
theorem kb_p_parse_24 {l : Launch} {G : XG} {d : Nat} {n : Nat} {x0 : Nat} {x1 : Int32} {h : XH} {r : Int32 × XH} (L0 : LY h) (hf : b_p_parse_24 n x0 x1 h = some r) : XR l G xEX7_parse (d + 6) (24, [some (.ref x0), some (.int x1)], [], h) (fun C => ∃ v, xRet xEX7_parse C v ∧ (C.2.2.2 = r.2 ∧ v = some (.int r.1)) ∧ LY r.2) := by
  induction n generalizing x0 x1 h with
  | zero => cases hf
  | succ n ih => exact ks_p_parse_24 (fun x0 x1 h L0 hf => ih (h := h) (x0 := x0) (x1 := x1) L0 hf) L0 hf
def f_p_parse (t : Nat) (h : XH) : Option (Int32 × XH) := (if t < hz h ∧ hk h t = 7 then (match hr h t 1 with | none => none | some b30 => (if b30 < hz h ∧ hk h b30 = 9 then (match f_s_restart b30 h with | none => none | some r33 => (if t < hz r33.2 ∧ hk r33.2 t = 7 then (match hr r33.2 t 0 with | none => none | some b37 => (if b37 < hz r33.2 ∧ hk r33.2 b37 = 6 then (match f_x_kind (hi r33.2 t 5) r33.2 with | none => none | some r40 => (if t < hz r40.2 ∧ hk r40.2 t = 7 then (b_p_parse_24 100000 t 0 (hsi r40.2 t 6 r40.1)) else none)) else none)) else none)) else none)) else none)
set_option maxRecDepth 20000 in
theorem kf_p_parse {l : Launch} {G : XG} {d : Nat} {t : Nat} {h : XH} {r : Int32 × XH} (L0 : LY h) (hf : f_p_parse t h = some r) : XC l G xEX7_parse (d + 6) [.ref t] h (fun v h2 => (h2 = r.2 ∧ v = some (.int r.1)) ∧ LY r.2) := by
  refine XC.virt xvX7_parse (Nat.le_of_ble_eq_true rfl) ?_
  unfold f_p_parse at hf
  refine XS.go (s_aloadn rfl rfl rfl) ?_
  by_cases qk29 : t < hz h ∧ hk h t = 7
  rotate_left
  · rw [if_neg qk29] at hf; cases hf
  rw [if_pos qk29] at hf
  rcases qr31 : hr h t 1 with _ | b30
  · rw [qr31] at hf; cases hf
  rw [qr31] at hf; dsimp only at hf
  refine XS.go (s_getr rfl xf7_44 qk29.1 qk29.2 (by decide) rfl qr31) ?_
  by_cases qk32 : b30 < hz h ∧ hk h b30 = 9
  rotate_left
  · rw [if_neg qk32] at hf; cases hf
  rw [if_pos qk32] at hf
  rcases e34 : f_s_restart b30 h with _ | r33
  · rw [e34] at hf; cases hf
  rw [e34] at hf; dsimp only at hf
  refine r_callv rfl xvX9_restart xm7_48 (kf_s_restart (d := d) L0 e34) qk32.1 qk32.2 (by decide) rfl rfl (by omega) (by decide) (Nat.le_of_ble_eq_true rfl) ?_
  rintro _ _ ⟨⟨rfl, rfl⟩, L35⟩
  refine XS.go (s_aloadn rfl rfl rfl) ?_
  refine XS.go (s_aloadn rfl rfl rfl) ?_
  by_cases qk36 : t < hz r33.2 ∧ hk r33.2 t = 7
  rotate_left
  · rw [if_neg qk36] at hf; cases hf
  rw [if_pos qk36] at hf
  rcases qr38 : hr r33.2 t 0 with _ | b37
  · rw [qr38] at hf; cases hf
  rw [qr38] at hf; dsimp only at hf
  refine XS.go (s_getr rfl xf7_40 qk36.1 qk36.2 (by decide) rfl qr38) ?_
  refine XS.go (s_aloadn rfl rfl rfl) ?_
  refine XS.go (s_getie rfl xf7_26 qk36.1 qk36.2 (by decide) rfl rfl) ?_
  by_cases qk39 : b37 < hz r33.2 ∧ hk r33.2 b37 = 6
  rotate_left
  · rw [if_neg qk39] at hf; cases hf
  rw [if_pos qk39] at hf
  rcases e41 : f_x_kind (hi r33.2 t 5) r33.2 with _ | r40
  · rw [e41] at hf; cases hf
  rw [e41] at hf; dsimp only at hf
  refine r_callv rfl xvX6_kind xm7_53 (kf_x_kind (d := d) L35 e41) qk39.1 qk39.2 (by decide) rfl rfl (by omega) (by decide) (Nat.le_of_ble_eq_true rfl) ?_
  rintro _ _ ⟨⟨rfl, rfl⟩, L42⟩
  by_cases qk43 : t < hz r40.2 ∧ hk r40.2 t = 7
  rotate_left
  · rw [if_neg qk43] at hf; cases hf
  rw [if_pos qk43] at hf
  refine XS.go (s_puti rfl xf7_31 qk43.1 qk43.2 (by decide) rfl (Or.inl rfl)) ?_
  refine XS.go (s_iconst (v := 0) rfl rfl) ?_
  refine XS.go (s_istoren rfl rfl (Nat.le_of_ble_eq_true rfl)) ?_
  exact XR.forget (L2 := [some (.ref t), some (.int 0)]) ⟨rfl, ⟨rfl, trivial⟩⟩ (kb_p_parse_24 (by simp only [LY_si, LY_sj]; exact L42) hf)
def f_r_drop (h : XH) : Option (Unit × XH) := (some ((), (hsi (hsi h 1256 1 0) 1255 5 (-1))))
set_option maxRecDepth 20000 in
theorem kf_r_drop {l : Launch} {G : XG} {d : Nat} {h : XH} {r : Unit × XH} (L0 : LY h) (hf : f_r_drop h = some r) : XC l G xEX8_drop d [.ref 1255] h (fun v h2 => (h2 = r.2 ∧ v = none) ∧ LY r.2) := by
  refine XC.virt xvX8_drop (Nat.le_of_ble_eq_true rfl) ?_
  unfold f_r_drop at hf
  refine XS.go (s_aloadn rfl rfl rfl) ?_
  refine XS.go (s_getr rfl xf8_12 (LY.lt L0 (by decide)) (LY.k1255 L0) (by decide) rfl (LY.r1255_0 L0)) ?_
  refine XS.go (s_iconst (v := 0) rfl rfl) ?_
  refine XS.go (s_puti rfl xf8_54 (LY.lt L0 (by decide)) (LY.k1256 L0) (by decide) rfl (Or.inl rfl)) ?_
  refine XS.go (s_aloadn rfl rfl rfl) ?_
  refine XS.go (s_iconst (v := (-1)) rfl rfl) ?_
  refine XS.go (s_puti rfl xf8_31 (LY.lt (by simp only [LY_si, LY_sj]; exact L0) (by decide)) (LY.k1255 (by simp only [LY_si, LY_sj]; exact L0)) (by decide) rfl (Or.inl rfl)) ?_
  cases hf
  exact XR.retv rfl rfl (fun hret => ⟨_, hret, ⟨rfl, rfl⟩, (by simp only [LY_si, LY_sj]; exact L0)⟩)
def f_r_isAtHand (h : XH) : Option (Int32 × XH) := (if (hi h 1255 5) < 0 then (some (0, h)) else (if 64 ≤ (hi h 1255 5) then (some (0, h)) else (some (1, h))))
set_option maxRecDepth 20000 in
theorem kf_r_isAtHand {l : Launch} {G : XG} {d : Nat} {h : XH} {r : Int32 × XH} (L0 : LY h) (hf : f_r_isAtHand h = some r) : XC l G xEX8_isAtHand d [.ref 1255] h (fun v h2 => (h2 = r.2 ∧ v = some (.int r.1)) ∧ LY r.2) := by
  refine XC.virt xvX8_isAtHand (Nat.le_of_ble_eq_true rfl) ?_
  unfold f_r_isAtHand at hf
  refine XS.go (s_aloadn rfl rfl rfl) ?_
  refine XS.go (s_getie rfl xf8_31 (LY.lt L0 (by decide)) (LY.k1255 L0) (by decide) rfl rfl) ?_
  refine r_if_lt (tgt := 20) rfl rfl (fun qc1 => ?_) (fun qc1 => ?_)
  · rw [if_pos qc1] at hf
    refine XS.go (s_iconst (v := 0) rfl rfl) ?_
    cases hf
    exact XR.retz rfl rfl (by decide) (fun hret => ⟨_, hret, ⟨rfl, rfl⟩, L0⟩)
  · rw [if_neg qc1] at hf
    refine XS.go (s_aloadn rfl rfl rfl) ?_
    refine XS.go (s_getie rfl xf8_31 (LY.lt L0 (by decide)) (LY.k1255 L0) (by decide) rfl rfl) ?_
    refine XS.go (s_bipush (v := 64) rfl rfl) ?_
    refine r_icmp_ge (tgt := 20) rfl rfl (fun qc2 => ?_) (fun qc2 => ?_)
    · rw [if_pos qc2] at hf
      refine XS.go (s_iconst (v := 0) rfl rfl) ?_
      cases hf
      exact XR.retz rfl rfl (by decide) (fun hret => ⟨_, hret, ⟨rfl, rfl⟩, L0⟩)
    · rw [if_neg qc2] at hf
      refine XS.go (s_iconst (v := 1) rfl rfl) ?_
      refine XS.go (s_goto (tgt := 21) rfl rfl) ?_
      cases hf
      exact XR.retz rfl rfl (by decide) (fun hret => ⟨_, hret, ⟨rfl, rfl⟩, L0⟩)
def f_r_nodeKind (h : XH) : Option (Int32 × XH) := (match f_r_isAtHand h with | none => none | some r1 => (if ¬ r1.1 = 0 then (if 0 ≤ (hi r1.2 1255 5) ∧ (hi r1.2 1255 5) < nI 64 then (if (hi r1.2 1258 (Int32.toNatClampNeg (hi r1.2 1255 5))) = 2 then (some (2, r1.2)) else (if (hi r1.2 1258 (Int32.toNatClampNeg (hi r1.2 1255 5))) = 3 then (some (1, r1.2)) else (if (hi r1.2 1258 (Int32.toNatClampNeg (hi r1.2 1255 5))) = 4 then (some (4, r1.2)) else (if (hi r1.2 1258 (Int32.toNatClampNeg (hi r1.2 1255 5))) = 5 then (some (3, r1.2)) else (some (4, r1.2)))))) else none) else (some ((-1), r1.2))))
set_option maxRecDepth 20000 in
theorem kf_r_nodeKind {l : Launch} {G : XG} {d : Nat} {h : XH} {r : Int32 × XH} (L0 : LY h) (hf : f_r_nodeKind h = some r) : XC l G xEX8_nodeKind (d + 1) [.ref 1255] h (fun v h2 => (h2 = r.2 ∧ v = some (.int r.1)) ∧ LY r.2) := by
  refine XC.virt xvX8_nodeKind (Nat.le_of_ble_eq_true rfl) ?_
  unfold f_r_nodeKind at hf
  refine XS.go (s_aloadn rfl rfl rfl) ?_
  rcases e2 : f_r_isAtHand h with _ | r1
  · rw [e2] at hf; cases hf
  rw [e2] at hf; dsimp only at hf
  refine r_callv rfl xvX8_isAtHand xm8_77 (kf_r_isAtHand (d := d) L0 e2) (LY.lt L0 (by decide)) (LY.k1255 L0) (by decide) rfl rfl (by omega) (by decide) (Nat.le_of_ble_eq_true rfl) ?_
  rintro _ _ ⟨⟨rfl, rfl⟩, L3⟩
  refine r_if_ne (tgt := 9) rfl rfl (fun qc4 => ?_) (fun qc4 => ?_)
  · rw [if_pos qc4] at hf
    refine XS.go (s_aloadn rfl rfl rfl) ?_
    refine XS.go (s_getr rfl xf8_18 (LY.lt L3 (by decide)) (LY.k1255 L3) (by decide) rfl (LY.r1255_1 L3)) ?_
    refine XS.go (s_aloadn rfl rfl rfl) ?_
    refine XS.go (s_getie rfl xf8_31 (LY.lt L3 (by decide)) (LY.k1255 L3) (by decide) rfl rfl) ?_
    by_cases qk5 : 0 ≤ (hi r1.2 1255 5) ∧ (hi r1.2 1255 5) < nI 64
    rotate_left
    · rw [if_neg qk5] at hf; cases hf
    rw [if_pos qk5] at hf
    refine XS.go (s_ialde rfl (LY.lt L3 (by decide)) (LY.k1258 L3) (inLit (LY.n1258 L3) qk5.1 qk5.2 (by decide)) rfl) ?_
    by_cases qs6_0 : (hi r1.2 1258 (Int32.toNatClampNeg (hi r1.2 1255 5))) = 2
    · rw [if_pos qs6_0] at hf
      refine XS.go (s_tswI (tgt := 50) rfl (by rw [qs6_0]; decide) (by rw [qs6_0]; decide) (by rw [qs6_0]; rfl) rfl) ?_
      refine XS.go (s_iconst (v := 2) rfl rfl) ?_
      cases hf
      exact XR.reti rfl rfl (fun hret => ⟨_, hret, ⟨rfl, rfl⟩, L3⟩)
    rw [if_neg qs6_0] at hf
    by_cases qs6_1 : (hi r1.2 1258 (Int32.toNatClampNeg (hi r1.2 1255 5))) = 3
    · rw [if_pos qs6_1] at hf
      refine XS.go (s_tswI (tgt := 48) rfl (by rw [qs6_1]; decide) (by rw [qs6_1]; decide) (by rw [qs6_1]; rfl) rfl) ?_
      refine XS.go (s_iconst (v := 1) rfl rfl) ?_
      cases hf
      exact XR.reti rfl rfl (fun hret => ⟨_, hret, ⟨rfl, rfl⟩, L3⟩)
    rw [if_neg qs6_1] at hf
    by_cases qs6_2 : (hi r1.2 1258 (Int32.toNatClampNeg (hi r1.2 1255 5))) = 4
    · rw [if_pos qs6_2] at hf
      refine XS.go (s_tswI (tgt := 54) rfl (by rw [qs6_2]; decide) (by rw [qs6_2]; decide) (by rw [qs6_2]; rfl) rfl) ?_
      refine XS.go (s_iconst (v := 4) rfl rfl) ?_
      cases hf
      exact XR.reti rfl rfl (fun hret => ⟨_, hret, ⟨rfl, rfl⟩, L3⟩)
    rw [if_neg qs6_2] at hf
    by_cases qs6_3 : (hi r1.2 1258 (Int32.toNatClampNeg (hi r1.2 1255 5))) = 5
    · rw [if_pos qs6_3] at hf
      refine XS.go (s_tswI (tgt := 52) rfl (by rw [qs6_3]; decide) (by rw [qs6_3]; decide) (by rw [qs6_3]; rfl) rfl) ?_
      refine XS.go (s_iconst (v := 3) rfl rfl) ?_
      cases hf
      exact XR.reti rfl rfl (fun hret => ⟨_, hret, ⟨rfl, rfl⟩, L3⟩)
    rw [if_neg qs6_3] at hf
    have qs6_o : ((hi r1.2 1258 (Int32.toNatClampNeg (hi r1.2 1255 5)))).toInt < 2 ∨ 5 < ((hi r1.2 1258 (Int32.toNatClampNeg (hi r1.2 1255 5)))).toInt := by
      refine tsw_out 2 5 (by decide) ?_
      intro k h1 h2
      have z : k = 2 ∨ k = 3 ∨ k = 4 ∨ k = 5 := by omega
      rcases z with rfl | rfl | rfl | rfl
      · exact qs6_0
      · exact qs6_1
      · exact qs6_2
      · exact qs6_3
    refine XS.go (s_tswO (tgt := 54) rfl qs6_o rfl) ?_
    refine XS.go (s_iconst (v := 4) rfl rfl) ?_
    cases hf
    exact XR.reti rfl rfl (fun hret => ⟨_, hret, ⟨rfl, rfl⟩, L3⟩)
  · rw [if_neg qc4] at hf
    refine XS.go (s_iconst (v := (-1)) rfl rfl) ?_
    cases hf
    exact XR.reti rfl rfl (fun hret => ⟨_, hret, ⟨rfl, rfl⟩, L3⟩)
def f_r_enter (a0 : Int32) (a1 : Int32) (a2 : Int32) (a3 : Int32) (h : XH) : Option (Int32 × XH) := (if ((hi h 1255 5) + 1) < 0 then (some ((-1), h)) else (if ((hi h 1255 5) + 1) < 64 then (match f_r_nodeKind (hsi (hsi (hsi (hsi (hsi h 1255 5 ((hi h 1255 5) + 1)) 1258 (Int32.toNatClampNeg ((hi h 1255 5) + 1)) a0) 1259 (Int32.toNatClampNeg ((hi h 1255 5) + 1)) a1) 1260 (Int32.toNatClampNeg ((hi h 1255 5) + 1)) a2) 1261 (Int32.toNatClampNeg ((hi h 1255 5) + 1)) a3) with | none => none | some r3 => (some (r3.1, r3.2))) else (some ((-1), h))))
set_option maxRecDepth 20000 in
theorem kf_r_enter {l : Launch} {G : XG} {d : Nat} {a0 : Int32} {a1 : Int32} {a2 : Int32} {a3 : Int32} {h : XH} {r : Int32 × XH} (L0 : LY h) (hf : f_r_enter a0 a1 a2 a3 h = some r) : XC l G xEX8_enter (d + 2) [.ref 1255, .int a0, .int a1, .int a2, .int a3] h (fun v h2 => (h2 = r.2 ∧ v = some (.int r.1)) ∧ LY r.2) := by
  refine XC.virt xvX8_enter (Nat.le_of_ble_eq_true rfl) ?_
  unfold f_r_enter at hf
  refine XS.go (s_aloadn rfl rfl rfl) ?_
  refine XS.go (s_getie rfl xf8_31 (LY.lt L0 (by decide)) (LY.k1255 L0) (by decide) rfl rfl) ?_
  refine XS.go (s_iconst (v := 1) rfl rfl) ?_
  refine XS.go (s_iadd rfl) ?_
  refine XS.go (s_istore rfl (Nat.le_of_ble_eq_true rfl)) ?_
  refine XS.go (s_iload rfl rfl) ?_
  refine r_if_lt (tgt := 20) rfl rfl (fun qc1 => ?_) (fun qc1 => ?_)
  · rw [if_pos qc1] at hf
    refine XS.go (s_iconst (v := (-1)) rfl rfl) ?_
    cases hf
    exact XR.reti rfl rfl (fun hret => ⟨_, hret, ⟨rfl, rfl⟩, L0⟩)
  · rw [if_neg qc1] at hf
    refine XS.go (s_iload rfl rfl) ?_
    refine XS.go (s_bipush (v := 64) rfl rfl) ?_
    refine r_icmp_lt (tgt := 22) rfl rfl (fun qc2 => ?_) (fun qc2 => ?_)
    · rw [if_pos qc2] at hf
      refine XS.go (s_aloadn rfl rfl rfl) ?_
      refine XS.go (s_iload rfl rfl) ?_
      refine XS.go (s_puti rfl xf8_31 (LY.lt L0 (by decide)) (LY.k1255 L0) (by decide) rfl (Or.inl rfl)) ?_
      refine XS.go (s_aloadn rfl rfl rfl) ?_
      refine XS.go (s_getr rfl xf8_18 (LY.lt (by simp only [LY_si, LY_sj]; exact L0) (by decide)) (LY.k1255 (by simp only [LY_si, LY_sj]; exact L0)) (by decide) rfl (LY.r1255_1 (by simp only [LY_si, LY_sj]; exact L0))) ?_
      refine XS.go (s_iload rfl rfl) ?_
      refine XS.go (s_iloadn rfl rfl rfl) ?_
      refine XS.go (s_iast rfl (LY.lt (by simp only [LY_si, LY_sj]; exact L0) (by decide)) (LY.k1258 (by simp only [LY_si, LY_sj]; exact L0)) (in_of (N := 64) (LY.n1258 (by simp only [LY_si, LY_sj]; exact L0)) (by decide) qc1 (Int32.not_le.mpr qc2))) ?_
      refine XS.go (s_aloadn rfl rfl rfl) ?_
      refine XS.go (s_getr rfl xf8_22 (LY.lt (by simp only [LY_si, LY_sj]; exact L0) (by decide)) (LY.k1255 (by simp only [LY_si, LY_sj]; exact L0)) (by decide) rfl (LY.r1255_2 (by simp only [LY_si, LY_sj]; exact L0))) ?_
      refine XS.go (s_iload rfl rfl) ?_
      refine XS.go (s_iloadn rfl rfl rfl) ?_
      refine XS.go (s_iast rfl (LY.lt (by simp only [LY_si, LY_sj]; exact L0) (by decide)) (LY.k1259 (by simp only [LY_si, LY_sj]; exact L0)) (in_of (N := 64) (LY.n1259 (by simp only [LY_si, LY_sj]; exact L0)) (by decide) qc1 (Int32.not_le.mpr qc2))) ?_
      refine XS.go (s_aloadn rfl rfl rfl) ?_
      refine XS.go (s_getr rfl xf8_25 (LY.lt (by simp only [LY_si, LY_sj]; exact L0) (by decide)) (LY.k1255 (by simp only [LY_si, LY_sj]; exact L0)) (by decide) rfl (LY.r1255_3 (by simp only [LY_si, LY_sj]; exact L0))) ?_
      refine XS.go (s_iload rfl rfl) ?_
      refine XS.go (s_iloadn rfl rfl rfl) ?_
      refine XS.go (s_iast rfl (LY.lt (by simp only [LY_si, LY_sj]; exact L0) (by decide)) (LY.k1260 (by simp only [LY_si, LY_sj]; exact L0)) (in_of (N := 64) (LY.n1260 (by simp only [LY_si, LY_sj]; exact L0)) (by decide) qc1 (Int32.not_le.mpr qc2))) ?_
      refine XS.go (s_aloadn rfl rfl rfl) ?_
      refine XS.go (s_getr rfl xf8_28 (LY.lt (by simp only [LY_si, LY_sj]; exact L0) (by decide)) (LY.k1255 (by simp only [LY_si, LY_sj]; exact L0)) (by decide) rfl (LY.r1255_4 (by simp only [LY_si, LY_sj]; exact L0))) ?_
      refine XS.go (s_iload rfl rfl) ?_
      refine XS.go (s_iload rfl rfl) ?_
      refine XS.go (s_iast rfl (LY.lt (by simp only [LY_si, LY_sj]; exact L0) (by decide)) (LY.k1261 (by simp only [LY_si, LY_sj]; exact L0)) (in_of (N := 64) (LY.n1261 (by simp only [LY_si, LY_sj]; exact L0)) (by decide) qc1 (Int32.not_le.mpr qc2))) ?_
      refine XS.go (s_aloadn rfl rfl rfl) ?_
      rcases e4 : f_r_nodeKind (hsi (hsi (hsi (hsi (hsi h 1255 5 ((hi h 1255 5) + 1)) 1258 (Int32.toNatClampNeg ((hi h 1255 5) + 1)) a0) 1259 (Int32.toNatClampNeg ((hi h 1255 5) + 1)) a1) 1260 (Int32.toNatClampNeg ((hi h 1255 5) + 1)) a2) 1261 (Int32.toNatClampNeg ((hi h 1255 5) + 1)) a3) with _ | r3
      · rw [e4] at hf; cases hf
      rw [e4] at hf; dsimp only at hf
      refine r_callv rfl xvX8_nodeKind xm8_73 (kf_r_nodeKind (d := d) (by simp only [LY_si, LY_sj]; exact L0) e4) (LY.lt (by simp only [LY_si, LY_sj]; exact L0) (by decide)) (LY.k1255 (by simp only [LY_si, LY_sj]; exact L0)) (by decide) rfl rfl (by omega) (by decide) (Nat.le_of_ble_eq_true rfl) ?_
      rintro _ _ ⟨⟨rfl, rfl⟩, L5⟩
      cases hf
      exact XR.reti rfl rfl (fun hret => ⟨_, hret, ⟨rfl, rfl⟩, L5⟩)
    · rw [if_neg qc2] at hf
      refine XS.go (s_iconst (v := (-1)) rfl rfl) ?_
      cases hf
      exact XR.reti rfl rfl (fun hret => ⟨_, hret, ⟨rfl, rfl⟩, L0⟩)
def f_r_goToRoot (a0 : Int32) (h : XH) : Option (Unit × XH) := (match f_b_behind 1256 0 (hsi h 1255 5 (-1)) with | none => none | some r1 => (match f_r_enter 3 a0 (-1) r1.1 r1.2 with | none => none | some r4 => (some ((), r4.2))))
set_option maxRecDepth 20000 in
theorem kf_r_goToRoot {l : Launch} {G : XG} {d : Nat} {a0 : Int32} {h : XH} {r : Unit × XH} (L0 : LY h) (hf : f_r_goToRoot a0 h = some r) : XC l G xEX8_goToRoot (d + 3) [.ref 1255, .int a0] h (fun v h2 => (h2 = r.2 ∧ v = none) ∧ LY r.2) := by
  refine XC.virt xvX8_goToRoot (Nat.le_of_ble_eq_true rfl) ?_
  unfold f_r_goToRoot at hf
  refine XS.go (s_aloadn rfl rfl rfl) ?_
  refine XS.go (s_iconst (v := (-1)) rfl rfl) ?_
  refine XS.go (s_puti rfl xf8_31 (LY.lt L0 (by decide)) (LY.k1255 L0) (by decide) rfl (Or.inl rfl)) ?_
  refine XS.go (s_aloadn rfl rfl rfl) ?_
  refine XS.go (s_iconst (v := 3) rfl rfl) ?_
  refine XS.go (s_iloadn rfl rfl rfl) ?_
  refine XS.go (s_iconst (v := (-1)) rfl rfl) ?_
  refine XS.go (s_aloadn rfl rfl rfl) ?_
  refine XS.go (s_getr rfl xf8_12 (LY.lt (by simp only [LY_si, LY_sj]; exact L0) (by decide)) (LY.k1255 (by simp only [LY_si, LY_sj]; exact L0)) (by decide) rfl (LY.r1255_0 (by simp only [LY_si, LY_sj]; exact L0))) ?_
  refine XS.go (s_iconst (v := 0) rfl rfl) ?_
  rcases e2 : f_b_behind 1256 0 (hsi h 1255 5 (-1)) with _ | r1
  · rw [e2] at hf; cases hf
  rw [e2] at hf; dsimp only at hf
  refine r_callv rfl xvX1_behind xm8_65 (kf_b_behind (d := d) (by simp only [LY_si, LY_sj]; exact L0) e2) (LY.lt (by simp only [LY_si, LY_sj]; exact L0) (by decide)) (LY.k1256 (by simp only [LY_si, LY_sj]; exact L0)) (by decide) rfl rfl (by omega) (by decide) (Nat.le_of_ble_eq_true rfl) ?_
  rintro _ _ ⟨⟨rfl, rfl⟩, L3⟩
  rcases e5 : f_r_enter 3 a0 (-1) r1.1 r1.2 with _ | r4
  · rw [e5] at hf; cases hf
  rw [e5] at hf; dsimp only at hf
  refine r_callv rfl xvX8_enter xm8_69 (kf_r_enter (d := d) L3 e5) (LY.lt L3 (by decide)) (LY.k1255 L3) (by decide) rfl rfl (by omega) (by decide) (Nat.le_of_ble_eq_true rfl) ?_
  rintro _ _ ⟨⟨rfl, rfl⟩, L6⟩
  refine XS.go (s_pop rfl rfl) ?_
  cases hf
  exact XR.retv rfl rfl (fun hret => ⟨_, hret, ⟨rfl, rfl⟩, L6⟩)
def f_r_accept (a0 : Nat) (a1 : Int32) (a2 : Int32) (h : XH) : Option (Unit × XH) := (match f_b_copy 1256 a0 0 0 a1 h with | none => none | some r1 => (match f_r_goToRoot a2 (hsi r1.2 1256 1 a1) with | none => none | some r4 => (some ((), r4.2))))
set_option maxRecDepth 20000 in
theorem kf_r_accept {l : Launch} {G : XG} {d : Nat} {a0 : Nat} {a1 : Int32} {a2 : Int32} {h : XH} {r : Unit × XH} (L0 : LY h) (hf : f_r_accept a0 a1 a2 h = some r) : XC l G xEX8_accept (d + 4) [.ref 1255, .ref a0, .int a1, .int a2] h (fun v h2 => (h2 = r.2 ∧ v = none) ∧ LY r.2) := by
  refine XC.virt xvX8_accept (Nat.le_of_ble_eq_true rfl) ?_
  unfold f_r_accept at hf
  refine XS.go (s_aloadn rfl rfl rfl) ?_
  refine XS.go (s_getr rfl xf8_12 (LY.lt L0 (by decide)) (LY.k1255 L0) (by decide) rfl (LY.r1255_0 L0)) ?_
  refine XS.go (s_aloadn rfl rfl rfl) ?_
  refine XS.go (s_iconst (v := 0) rfl rfl) ?_
  refine XS.go (s_iconst (v := 0) rfl rfl) ?_
  refine XS.go (s_iloadn rfl rfl rfl) ?_
  rcases e2 : f_b_copy 1256 a0 0 0 a1 h with _ | r1
  · rw [e2] at hf; cases hf
  rw [e2] at hf; dsimp only at hf
  refine r_callv rfl xvX1_copy xm8_57 (kf_b_copy (d := d) L0 e2) (LY.lt L0 (by decide)) (LY.k1256 L0) (by decide) rfl rfl (by omega) (by decide) (Nat.le_of_ble_eq_true rfl) ?_
  rintro _ _ ⟨⟨rfl, rfl⟩, L3⟩
  refine XS.go (s_aloadn rfl rfl rfl) ?_
  refine XS.go (s_getr rfl xf8_12 (LY.lt L3 (by decide)) (LY.k1255 L3) (by decide) rfl (LY.r1255_0 L3)) ?_
  refine XS.go (s_iloadn rfl rfl rfl) ?_
  refine XS.go (s_puti rfl xf8_54 (LY.lt L3 (by decide)) (LY.k1256 L3) (by decide) rfl (Or.inl rfl)) ?_
  refine XS.go (s_aloadn rfl rfl rfl) ?_
  refine XS.go (s_iloadn rfl rfl rfl) ?_
  rcases e5 : f_r_goToRoot a2 (hsi r1.2 1256 1 a1) with _ | r4
  · rw [e5] at hf; cases hf
  rw [e5] at hf; dsimp only at hf
  refine r_callv rfl xvX8_goToRoot xm8_61 (kf_r_goToRoot (d := d) (by simp only [LY_si, LY_sj]; exact L3) e5) (LY.lt (by simp only [LY_si, LY_sj]; exact L3) (by decide)) (LY.k1255 (by simp only [LY_si, LY_sj]; exact L3)) (by decide) rfl rfl (by omega) (by decide) (Nat.le_of_ble_eq_true rfl) ?_
  rintro _ _ ⟨⟨rfl, rfl⟩, L6⟩
  cases hf
  exact XR.retv rfl rfl (fun hret => ⟨_, hret, ⟨rfl, rfl⟩, L6⟩)
def f_r_leave (h : XH) : Option (Int32 × XH) := (if 1 ≤ (hi h 1255 5) then (match f_r_nodeKind (hsi h 1255 5 ((hi h 1255 5) - 1)) with | none => none | some r2 => (some (r2.1, r2.2))) else (some ((-1), h)))
set_option maxRecDepth 20000 in
theorem kf_r_leave {l : Launch} {G : XG} {d : Nat} {h : XH} {r : Int32 × XH} (L0 : LY h) (hf : f_r_leave h = some r) : XC l G xEX8_leave (d + 2) [.ref 1255] h (fun v h2 => (h2 = r.2 ∧ v = some (.int r.1)) ∧ LY r.2) := by
  refine XC.virt xvX8_leave (Nat.le_of_ble_eq_true rfl) ?_
  unfold f_r_leave at hf
  refine XS.go (s_aloadn rfl rfl rfl) ?_
  refine XS.go (s_getie rfl xf8_31 (LY.lt L0 (by decide)) (LY.k1255 L0) (by decide) rfl rfl) ?_
  refine XS.go (s_iconst (v := 1) rfl rfl) ?_
  refine r_icmp_ge (tgt := 10) rfl rfl (fun qc1 => ?_) (fun qc1 => ?_)
  · rw [if_pos qc1] at hf
    refine XS.go (s_aloadn rfl rfl rfl) ?_
    refine XS.go (s_dup rfl rfl) ?_
    refine XS.go (s_getie rfl xf8_31 (LY.lt L0 (by decide)) (LY.k1255 L0) (by decide) rfl rfl) ?_
    refine XS.go (s_iconst (v := 1) rfl rfl) ?_
    refine XS.go (s_isub rfl) ?_
    refine XS.go (s_puti rfl xf8_31 (LY.lt L0 (by decide)) (LY.k1255 L0) (by decide) rfl (Or.inl rfl)) ?_
    refine XS.go (s_aloadn rfl rfl rfl) ?_
    rcases e3 : f_r_nodeKind (hsi h 1255 5 ((hi h 1255 5) - 1)) with _ | r2
    · rw [e3] at hf; cases hf
    rw [e3] at hf; dsimp only at hf
    refine r_callv rfl xvX8_nodeKind xm8_73 (kf_r_nodeKind (d := d) (by simp only [LY_si, LY_sj]; exact L0) e3) (LY.lt (by simp only [LY_si, LY_sj]; exact L0) (by decide)) (LY.k1255 (by simp only [LY_si, LY_sj]; exact L0)) (by decide) rfl rfl (by omega) (by decide) (Nat.le_of_ble_eq_true rfl) ?_
    rintro _ _ ⟨⟨rfl, rfl⟩, L4⟩
    cases hf
    exact XR.reti rfl rfl (fun hret => ⟨_, hret, ⟨rfl, rfl⟩, L4⟩)
  · rw [if_neg qc1] at hf
    refine XS.go (s_iconst (v := (-1)) rfl rfl) ?_
    cases hf
    exact XR.reti rfl rfl (fun hret => ⟨_, hret, ⟨rfl, rfl⟩, L0⟩)
def b_r_definitionAtHand_51 (y0 : Option Nat) (h : XH) : Option (Option Nat × XH) := (some (y0, h))
set_option maxRecDepth 20000 in
theorem kb_r_definitionAtHand_51 {l : Launch} {G : XG} {d : Nat} {y0 : Option Nat} {h : XH} {r : Option Nat × XH} (L0 : LY h) (hf : b_r_definitionAtHand_51 y0 h = some r) : XR l G xEX8_definitionAtHand (d + 1) (51, [none, none, none], [(va_rf y0)], h) (fun C => ∃ v, xRet xEX8_definitionAtHand C v ∧ (C.2.2.2 = r.2 ∧ v = some (va_rf r.1)) ∧ LY r.2) := by
  unfold b_r_definitionAtHand_51 at hf
  cases hf
  exact XR.reta (o := y0) rfl rfl (fun hret => ⟨_, hret, ⟨rfl, rfl⟩, L0⟩)
def f_r_definitionAtHand (a0 : Nat) (h : XH) : Option (Option Nat × XH) := (match f_r_isAtHand h with | none => none | some r1 => (if ¬ r1.1 = 0 then (if 0 ≤ (hi r1.2 1255 5) ∧ (hi r1.2 1255 5) < nI 64 then (if ¬ (hi r1.2 1258 (Int32.toNatClampNeg (hi r1.2 1255 5))) = 3 then (if a0 < hz r1.2 ∧ hk r1.2 a0 = 9 then (match hr r1.2 a0 0 with | none => none | some b8 => (if b8 < hz r1.2 ∧ hk r1.2 b8 = 4 then (match f_g_at b8 (hi r1.2 1259 (Int32.toNatClampNeg (hi r1.2 1255 5))) r1.2 with | none => none | some r11 => (b_r_definitionAtHand_51 r11.1 r11.2)) else none)) else none) else (if a0 < hz r1.2 ∧ hk r1.2 a0 = 9 then (match hr r1.2 a0 1 with | none => none | some b15 => (if b15 < hz r1.2 ∧ hk r1.2 b15 = 4 then (match f_g_at b15 (hi r1.2 1259 (Int32.toNatClampNeg (hi r1.2 1255 5))) r1.2 with | none => none | some r18 => (b_r_definitionAtHand_51 r18.1 r18.2)) else none)) else none)) else none) else (some (none, r1.2))))
set_option maxRecDepth 20000 in
theorem kf_r_definitionAtHand {l : Launch} {G : XG} {d : Nat} {a0 : Nat} {h : XH} {r : Option Nat × XH} (L0 : LY h) (hf : f_r_definitionAtHand a0 h = some r) : XC l G xEX8_definitionAtHand (d + 1) [.ref 1255, .ref a0] h (fun v h2 => (h2 = r.2 ∧ v = some (va_rf r.1)) ∧ LY r.2) := by
  refine XC.virt xvX8_definitionAtHand (Nat.le_of_ble_eq_true rfl) ?_
  unfold f_r_definitionAtHand at hf
  refine XS.go (s_aloadn rfl rfl rfl) ?_
  rcases e2 : f_r_isAtHand h with _ | r1
  · rw [e2] at hf; cases hf
  rw [e2] at hf; dsimp only at hf
  refine r_callv rfl xvX8_isAtHand xm8_77 (kf_r_isAtHand (d := d) L0 e2) (LY.lt L0 (by decide)) (LY.k1255 L0) (by decide) rfl rfl (by omega) (by decide) (Nat.le_of_ble_eq_true rfl) ?_
  rintro _ _ ⟨⟨rfl, rfl⟩, L3⟩
  refine r_if_ne (tgt := 9) rfl rfl (fun qc4 => ?_) (fun qc4 => ?_)
  · rw [if_pos qc4] at hf
    refine XS.go (s_aloadn rfl rfl rfl) ?_
    refine XS.go (s_getr rfl xf8_22 (LY.lt L3 (by decide)) (LY.k1255 L3) (by decide) rfl (LY.r1255_2 L3)) ?_
    refine XS.go (s_aloadn rfl rfl rfl) ?_
    refine XS.go (s_getie rfl xf8_31 (LY.lt L3 (by decide)) (LY.k1255 L3) (by decide) rfl rfl) ?_
    by_cases qk5 : 0 ≤ (hi r1.2 1255 5) ∧ (hi r1.2 1255 5) < nI 64
    rotate_left
    · rw [if_neg qk5] at hf; cases hf
    rw [if_pos qk5] at hf
    refine XS.go (s_ialde rfl (LY.lt L3 (by decide)) (LY.k1259 L3) (inLit (LY.n1259 L3) qk5.1 qk5.2 (by decide)) rfl) ?_
    refine XS.go (s_istoren rfl rfl (Nat.le_of_ble_eq_true rfl)) ?_
    refine XS.go (s_aloadn rfl rfl rfl) ?_
    refine XS.go (s_getr rfl xf8_18 (LY.lt L3 (by decide)) (LY.k1255 L3) (by decide) rfl (LY.r1255_1 L3)) ?_
    refine XS.go (s_aloadn rfl rfl rfl) ?_
    refine XS.go (s_getie rfl xf8_31 (LY.lt L3 (by decide)) (LY.k1255 L3) (by decide) rfl rfl) ?_
    refine XS.go (s_ialde rfl (LY.lt L3 (by decide)) (LY.k1258 L3) (inLit (LY.n1258 L3) qk5.1 qk5.2 (by decide)) rfl) ?_
    refine XS.go (s_iconst (v := 3) rfl rfl) ?_
    refine r_icmp_ne (tgt := 43) rfl rfl (fun qc6 => ?_) (fun qc6 => ?_)
    · rw [if_pos qc6] at hf
      refine XS.go (s_aloadn rfl rfl rfl) ?_
      by_cases qk7 : a0 < hz r1.2 ∧ hk r1.2 a0 = 9
      rotate_left
      · rw [if_neg qk7] at hf; cases hf
      rw [if_pos qk7] at hf
      rcases qr9 : hr r1.2 a0 0 with _ | b8
      · rw [qr9] at hf; cases hf
      rw [qr9] at hf; dsimp only at hf
      refine XS.go (s_getr rfl xf8_97 qk7.1 qk7.2 (by decide) rfl qr9) ?_
      refine XS.go (s_iloadn rfl rfl rfl) ?_
      by_cases qk10 : b8 < hz r1.2 ∧ hk r1.2 b8 = 4
      rotate_left
      · rw [if_neg qk10] at hf; cases hf
      rw [if_pos qk10] at hf
      rcases e12 : f_g_at b8 (hi r1.2 1259 (Int32.toNatClampNeg (hi r1.2 1255 5))) r1.2 with _ | r11
      · rw [e12] at hf; cases hf
      rw [e12] at hf; dsimp only at hf
      refine r_callv rfl xvX4_at xm8_91 (kf_g_at (d := d) L3 e12) qk10.1 qk10.2 (by decide) rfl rfl (by omega) (by decide) (Nat.le_of_ble_eq_true rfl) ?_
      rintro _ _ ⟨⟨rfl, rfl⟩, L13⟩
      exact XR.forget (L2 := [none, none, none]) trivial (kb_r_definitionAtHand_51 L13 hf)
    · rw [if_neg qc6] at hf
      refine XS.go (s_aloadn rfl rfl rfl) ?_
      by_cases qk14 : a0 < hz r1.2 ∧ hk r1.2 a0 = 9
      rotate_left
      · rw [if_neg qk14] at hf; cases hf
      rw [if_pos qk14] at hf
      rcases qr16 : hr r1.2 a0 1 with _ | b15
      · rw [qr16] at hf; cases hf
      rw [qr16] at hf; dsimp only at hf
      refine XS.go (s_getr rfl xf8_85 qk14.1 qk14.2 (by decide) rfl qr16) ?_
      refine XS.go (s_iloadn rfl rfl rfl) ?_
      by_cases qk17 : b15 < hz r1.2 ∧ hk r1.2 b15 = 4
      rotate_left
      · rw [if_neg qk17] at hf; cases hf
      rw [if_pos qk17] at hf
      rcases e19 : f_g_at b15 (hi r1.2 1259 (Int32.toNatClampNeg (hi r1.2 1255 5))) r1.2 with _ | r18
      · rw [e19] at hf; cases hf
      rw [e19] at hf; dsimp only at hf
      refine r_callv rfl xvX4_at xm8_91 (kf_g_at (d := d) L3 e19) qk17.1 qk17.2 (by decide) rfl rfl (by omega) (by decide) (Nat.le_of_ble_eq_true rfl) ?_
      rintro _ _ ⟨⟨rfl, rfl⟩, L20⟩
      refine XS.go (s_goto (tgt := 51) rfl rfl) ?_
      exact XR.forget (L2 := [none, none, none]) trivial (kb_r_definitionAtHand_51 L20 hf)
  · rw [if_neg qc4] at hf
    refine XS.go (s_null rfl) ?_
    cases hf
    exact XR.reta (o := none) rfl rfl (fun hret => ⟨_, hret, ⟨rfl, rfl⟩, L3⟩)
def b_r_partCount_35 (h : XH) : Option (Int32 × XH) := (if 0 ≤ (hi h 1255 5) ∧ (hi h 1255 5) < nI 64 then (match f_b_number 1256 (hi h 1261 (Int32.toNatClampNeg (hi h 1255 5))) 4 h with | none => none | some r2 => (some ((Int64.toInt32 r2.1), r2.2))) else none)
set_option maxRecDepth 20000 in
theorem kb_r_partCount_35 {l : Launch} {G : XG} {d : Nat} {h : XH} {r : Int32 × XH} (L0 : LY h) (hf : b_r_partCount_35 h = some r) : XR l G xEX8_partCount (d + 2) (35, [some (.ref 1255), none, none], [], h) (fun C => ∃ v, xRet xEX8_partCount C v ∧ (C.2.2.2 = r.2 ∧ v = some (.int r.1)) ∧ LY r.2) := by
  unfold b_r_partCount_35 at hf
  refine XS.go (s_aloadn rfl rfl rfl) ?_
  refine XS.go (s_getr rfl xf8_12 (LY.lt L0 (by decide)) (LY.k1255 L0) (by decide) rfl (LY.r1255_0 L0)) ?_
  refine XS.go (s_aloadn rfl rfl rfl) ?_
  refine XS.go (s_getr rfl xf8_28 (LY.lt L0 (by decide)) (LY.k1255 L0) (by decide) rfl (LY.r1255_4 L0)) ?_
  refine XS.go (s_aloadn rfl rfl rfl) ?_
  refine XS.go (s_getie rfl xf8_31 (LY.lt L0 (by decide)) (LY.k1255 L0) (by decide) rfl rfl) ?_
  by_cases qk1 : 0 ≤ (hi h 1255 5) ∧ (hi h 1255 5) < nI 64
  rotate_left
  · rw [if_neg qk1] at hf; cases hf
  rw [if_pos qk1] at hf
  refine XS.go (s_ialde rfl (LY.lt L0 (by decide)) (LY.k1261 L0) (inLit (LY.n1261 L0) qk1.1 qk1.2 (by decide)) rfl) ?_
  refine XS.go (s_iconst (v := 4) rfl rfl) ?_
  rcases e3 : f_b_number 1256 (hi h 1261 (Int32.toNatClampNeg (hi h 1255 5))) 4 h with _ | r2
  · rw [e3] at hf; cases hf
  rw [e3] at hf; dsimp only at hf
  refine r_callv rfl xvX1_number xm8_100 (kf_b_number (d := d) L0 e3) (LY.lt L0 (by decide)) (LY.k1256 L0) (by decide) rfl rfl (by omega) (by decide) (Nat.le_of_ble_eq_true rfl) ?_
  rintro _ _ ⟨⟨rfl, rfl⟩, L4⟩
  refine XS.go (s_l2i rfl) ?_
  cases hf
  exact XR.reti rfl rfl (fun hret => ⟨_, hret, ⟨rfl, rfl⟩, L4⟩)
def f_r_partCount (a0 : Nat) (h : XH) : Option (Int32 × XH) := (match f_r_isAtHand h with | none => none | some r5 => (if ¬ r5.1 = 0 then (if 0 ≤ (hi r5.2 1255 5) ∧ (hi r5.2 1255 5) < nI 64 then (if (hi r5.2 1258 (Int32.toNatClampNeg (hi r5.2 1255 5))) = 5 then (b_r_partCount_35 r5.2) else (if ¬ (hi r5.2 1258 (Int32.toNatClampNeg (hi r5.2 1255 5))) = 1 then (match f_r_definitionAtHand a0 r5.2 with | none => none | some r12 => (match r12.1 with | none => (some (0, r12.2)) | some b16 => (if b16 < hz r12.2 ∧ hk r12.2 b16 = 2 then (some ((hi r12.2 b16 3), r12.2)) else none))) else (b_r_partCount_35 r5.2))) else none) else (some (0, r5.2))))
set_option maxRecDepth 20000 in
theorem kf_r_partCount {l : Launch} {G : XG} {d : Nat} {a0 : Nat} {h : XH} {r : Int32 × XH} (L0 : LY h) (hf : f_r_partCount a0 h = some r) : XC l G xEX8_partCount (d + 2) [.ref 1255, .ref a0] h (fun v h2 => (h2 = r.2 ∧ v = some (.int r.1)) ∧ LY r.2) := by
  refine XC.virt xvX8_partCount (Nat.le_of_ble_eq_true rfl) ?_
  unfold f_r_partCount at hf
  refine XS.go (s_aloadn rfl rfl rfl) ?_
  rcases e6 : f_r_isAtHand h with _ | r5
  · rw [e6] at hf; cases hf
  rw [e6] at hf; dsimp only at hf
  refine r_callv rfl xvX8_isAtHand xm8_77 (kf_r_isAtHand (d := d) L0 e6) (LY.lt L0 (by decide)) (LY.k1255 L0) (by decide) rfl rfl (by omega) (by decide) (Nat.le_of_ble_eq_true rfl) ?_
  rintro _ _ ⟨⟨rfl, rfl⟩, L7⟩
  refine r_if_ne (tgt := 9) rfl rfl (fun qc8 => ?_) (fun qc8 => ?_)
  · rw [if_pos qc8] at hf
    refine XS.go (s_aloadn rfl rfl rfl) ?_
    refine XS.go (s_getr rfl xf8_18 (LY.lt L7 (by decide)) (LY.k1255 L7) (by decide) rfl (LY.r1255_1 L7)) ?_
    refine XS.go (s_aloadn rfl rfl rfl) ?_
    refine XS.go (s_getie rfl xf8_31 (LY.lt L7 (by decide)) (LY.k1255 L7) (by decide) rfl rfl) ?_
    by_cases qk9 : 0 ≤ (hi r5.2 1255 5) ∧ (hi r5.2 1255 5) < nI 64
    rotate_left
    · rw [if_neg qk9] at hf; cases hf
    rw [if_pos qk9] at hf
    refine XS.go (s_ialde rfl (LY.lt L7 (by decide)) (LY.k1258 L7) (inLit (LY.n1258 L7) qk9.1 qk9.2 (by decide)) rfl) ?_
    refine XS.go (s_iconst (v := 5) rfl rfl) ?_
    refine r_icmp_eq (tgt := 35) rfl rfl (fun qc10 => ?_) (fun qc10 => ?_)
    · rw [if_pos qc10] at hf
      exact XR.forget (L2 := [some (.ref 1255), none, none]) ⟨rfl, trivial⟩ (kb_r_partCount_35 L7 hf)
    · rw [if_neg qc10] at hf
      refine XS.go (s_aloadn rfl rfl rfl) ?_
      refine XS.go (s_getr rfl xf8_18 (LY.lt L7 (by decide)) (LY.k1255 L7) (by decide) rfl (LY.r1255_1 L7)) ?_
      refine XS.go (s_aloadn rfl rfl rfl) ?_
      refine XS.go (s_getie rfl xf8_31 (LY.lt L7 (by decide)) (LY.k1255 L7) (by decide) rfl rfl) ?_
      refine XS.go (s_ialde rfl (LY.lt L7 (by decide)) (LY.k1258 L7) (inLit (LY.n1258 L7) qk9.1 qk9.2 (by decide)) rfl) ?_
      refine XS.go (s_iconst (v := 1) rfl rfl) ?_
      refine r_icmp_ne (tgt := 54) rfl rfl (fun qc11 => ?_) (fun qc11 => ?_)
      · rw [if_pos qc11] at hf
        refine XS.go (s_aloadn rfl rfl rfl) ?_
        refine XS.go (s_aloadn rfl rfl rfl) ?_
        rcases e13 : f_r_definitionAtHand a0 r5.2 with _ | r12
        · rw [e13] at hf; cases hf
        rw [e13] at hf; dsimp only at hf
        refine r_callv rfl xvX8_definitionAtHand xm8_104 (kf_r_definitionAtHand (d := d) L7 e13) (LY.lt L7 (by decide)) (LY.k1255 L7) (by decide) rfl rfl (by omega) (by decide) (Nat.le_of_ble_eq_true rfl) ?_
        rintro _ _ ⟨⟨rfl, rfl⟩, L14⟩
        refine XS.go (s_astorenO rfl rfl (Nat.le_of_ble_eq_true rfl)) ?_
        refine XS.go (s_aloadnO rfl rfl rfl) ?_
        refine r_ifnonnull (tgt := 68) rfl rfl (fun qn15 => ?_) (fun b16 qn15 => ?_)
        · rw [qn15] at hf; dsimp only at hf; try rw [qn15]
          refine XS.go (s_iconst (v := 0) rfl rfl) ?_
          refine XS.go (s_goto (tgt := 72) rfl rfl) ?_
          cases hf
          exact XR.reti rfl rfl (fun hret => ⟨_, hret, ⟨rfl, rfl⟩, L14⟩)
        · rw [qn15] at hf; dsimp only at hf; try rw [qn15]
          refine XS.go (s_aloadn rfl rfl rfl) ?_
          by_cases qk17 : b16 < hz r12.2 ∧ hk r12.2 b16 = 2
          rotate_left
          · rw [if_neg qk17] at hf; cases hf
          rw [if_pos qk17] at hf
          refine XS.go (s_getie rfl xf8_108 qk17.1 qk17.2 (by decide) rfl rfl) ?_
          cases hf
          exact XR.reti rfl rfl (fun hret => ⟨_, hret, ⟨rfl, rfl⟩, L14⟩)
      · rw [if_neg qc11] at hf
        exact XR.forget (L2 := [some (.ref 1255), none, none]) ⟨rfl, trivial⟩ (kb_r_partCount_35 L7 hf)
  · rw [if_neg qc8] at hf
    refine XS.go (s_iconst (v := 0) rfl rfl) ?_
    cases hf
    exact XR.reti rfl rfl (fun hret => ⟨_, hret, ⟨rfl, rfl⟩, L7⟩)
def f_r_tell (a0 : Nat) (a1 : Int32) (h : XH) : Option (Int32 × XH) := (match f_r_isAtHand h with | none => none | some r1 => (if ¬ r1.1 = 0 then (if a1 = 0 then (match f_r_nodeKind r1.2 with | none => none | some r6 => (some (r6.1, r6.2))) else (if a1 = 1 then (if 0 ≤ (hi r1.2 1255 5) ∧ (hi r1.2 1255 5) < nI 64 then (some ((hi r1.2 1259 (Int32.toNatClampNeg (hi r1.2 1255 5))), r1.2)) else none) else (if a1 = 2 then (if 0 ≤ (hi r1.2 1255 5) ∧ (hi r1.2 1255 5) < nI 64 then (some ((hi r1.2 1261 (Int32.toNatClampNeg (hi r1.2 1255 5))), r1.2)) else none) else (if a1 = 3 then (match f_r_partCount a0 r1.2 with | none => none | some r11 => (some (r11.1, r11.2))) else (if a1 = 4 then (some ((hi r1.2 1255 5), r1.2)) else (some ((-1), r1.2))))))) else (some ((-1), r1.2))))
set_option maxRecDepth 20000 in
theorem kf_r_tell {l : Launch} {G : XG} {d : Nat} {a0 : Nat} {a1 : Int32} {h : XH} {r : Int32 × XH} (L0 : LY h) (hf : f_r_tell a0 a1 h = some r) : XC l G xEX8_tell (d + 3) [.ref 1255, .ref a0, .int a1] h (fun v h2 => (h2 = r.2 ∧ v = some (.int r.1)) ∧ LY r.2) := by
  refine XC.virt xvX8_tell (Nat.le_of_ble_eq_true rfl) ?_
  unfold f_r_tell at hf
  refine XS.go (s_aloadn rfl rfl rfl) ?_
  rcases e2 : f_r_isAtHand h with _ | r1
  · rw [e2] at hf; cases hf
  rw [e2] at hf; dsimp only at hf
  refine r_callv rfl xvX8_isAtHand xm8_77 (kf_r_isAtHand (d := d) L0 e2) (LY.lt L0 (by decide)) (LY.k1255 L0) (by decide) rfl rfl (by omega) (by decide) (Nat.le_of_ble_eq_true rfl) ?_
  rintro _ _ ⟨⟨rfl, rfl⟩, L3⟩
  refine r_if_ne (tgt := 9) rfl rfl (fun qc4 => ?_) (fun qc4 => ?_)
  · rw [if_pos qc4] at hf
    refine XS.go (s_iloadn rfl rfl rfl) ?_
    by_cases qs5_0 : a1 = 0
    · rw [if_pos qs5_0] at hf
      refine XS.go (s_tswI (tgt := 44) rfl (by rw [qs5_0]; decide) (by rw [qs5_0]; decide) (by rw [qs5_0]; rfl) rfl) ?_
      refine XS.go (s_aloadn rfl rfl rfl) ?_
      rcases e7 : f_r_nodeKind r1.2 with _ | r6
      · rw [e7] at hf; cases hf
      rw [e7] at hf; dsimp only at hf
      refine r_callv rfl xvX8_nodeKind xm8_73 (kf_r_nodeKind (d := d) L3 e7) (LY.lt L3 (by decide)) (LY.k1255 L3) (by decide) rfl rfl (by omega) (by decide) (Nat.le_of_ble_eq_true rfl) ?_
      rintro _ _ ⟨⟨rfl, rfl⟩, L8⟩
      cases hf
      exact XR.reti rfl rfl (fun hret => ⟨_, hret, ⟨rfl, rfl⟩, L8⟩)
    rw [if_neg qs5_0] at hf
    by_cases qs5_1 : a1 = 1
    · rw [if_pos qs5_1] at hf
      refine XS.go (s_tswI (tgt := 49) rfl (by rw [qs5_1]; decide) (by rw [qs5_1]; decide) (by rw [qs5_1]; rfl) rfl) ?_
      refine XS.go (s_aloadn rfl rfl rfl) ?_
      refine XS.go (s_getr rfl xf8_22 (LY.lt L3 (by decide)) (LY.k1255 L3) (by decide) rfl (LY.r1255_2 L3)) ?_
      refine XS.go (s_aloadn rfl rfl rfl) ?_
      refine XS.go (s_getie rfl xf8_31 (LY.lt L3 (by decide)) (LY.k1255 L3) (by decide) rfl rfl) ?_
      by_cases qk9 : 0 ≤ (hi r1.2 1255 5) ∧ (hi r1.2 1255 5) < nI 64
      rotate_left
      · rw [if_neg qk9] at hf; cases hf
      rw [if_pos qk9] at hf
      refine XS.go (s_ialde rfl (LY.lt L3 (by decide)) (LY.k1259 L3) (inLit (LY.n1259 L3) qk9.1 qk9.2 (by decide)) rfl) ?_
      cases hf
      exact XR.reti rfl rfl (fun hret => ⟨_, hret, ⟨rfl, rfl⟩, L3⟩)
    rw [if_neg qs5_1] at hf
    by_cases qs5_2 : a1 = 2
    · rw [if_pos qs5_2] at hf
      refine XS.go (s_tswI (tgt := 59) rfl (by rw [qs5_2]; decide) (by rw [qs5_2]; decide) (by rw [qs5_2]; rfl) rfl) ?_
      refine XS.go (s_aloadn rfl rfl rfl) ?_
      refine XS.go (s_getr rfl xf8_28 (LY.lt L3 (by decide)) (LY.k1255 L3) (by decide) rfl (LY.r1255_4 L3)) ?_
      refine XS.go (s_aloadn rfl rfl rfl) ?_
      refine XS.go (s_getie rfl xf8_31 (LY.lt L3 (by decide)) (LY.k1255 L3) (by decide) rfl rfl) ?_
      by_cases qk10 : 0 ≤ (hi r1.2 1255 5) ∧ (hi r1.2 1255 5) < nI 64
      rotate_left
      · rw [if_neg qk10] at hf; cases hf
      rw [if_pos qk10] at hf
      refine XS.go (s_ialde rfl (LY.lt L3 (by decide)) (LY.k1261 L3) (inLit (LY.n1261 L3) qk10.1 qk10.2 (by decide)) rfl) ?_
      cases hf
      exact XR.reti rfl rfl (fun hret => ⟨_, hret, ⟨rfl, rfl⟩, L3⟩)
    rw [if_neg qs5_2] at hf
    by_cases qs5_3 : a1 = 3
    · rw [if_pos qs5_3] at hf
      refine XS.go (s_tswI (tgt := 69) rfl (by rw [qs5_3]; decide) (by rw [qs5_3]; decide) (by rw [qs5_3]; rfl) rfl) ?_
      refine XS.go (s_aloadn rfl rfl rfl) ?_
      refine XS.go (s_aloadn rfl rfl rfl) ?_
      rcases e12 : f_r_partCount a0 r1.2 with _ | r11
      · rw [e12] at hf; cases hf
      rw [e12] at hf; dsimp only at hf
      refine r_callv rfl xvX8_partCount xm8_81 (kf_r_partCount (d := d) L3 e12) (LY.lt L3 (by decide)) (LY.k1255 L3) (by decide) rfl rfl (by omega) (by decide) (Nat.le_of_ble_eq_true rfl) ?_
      rintro _ _ ⟨⟨rfl, rfl⟩, L13⟩
      cases hf
      exact XR.reti rfl rfl (fun hret => ⟨_, hret, ⟨rfl, rfl⟩, L13⟩)
    rw [if_neg qs5_3] at hf
    by_cases qs5_4 : a1 = 4
    · rw [if_pos qs5_4] at hf
      refine XS.go (s_tswI (tgt := 75) rfl (by rw [qs5_4]; decide) (by rw [qs5_4]; decide) (by rw [qs5_4]; rfl) rfl) ?_
      refine XS.go (s_aloadn rfl rfl rfl) ?_
      refine XS.go (s_getie rfl xf8_31 (LY.lt L3 (by decide)) (LY.k1255 L3) (by decide) rfl rfl) ?_
      cases hf
      exact XR.reti rfl rfl (fun hret => ⟨_, hret, ⟨rfl, rfl⟩, L3⟩)
    rw [if_neg qs5_4] at hf
    have qs5_o : (a1).toInt < 0 ∨ 4 < (a1).toInt := by
      refine tsw_out 0 4 (by decide) ?_
      intro k h1 h2
      have z : k = 0 ∨ k = 1 ∨ k = 2 ∨ k = 3 ∨ k = 4 := by omega
      rcases z with rfl | rfl | rfl | rfl | rfl
      · exact qs5_0
      · exact qs5_1
      · exact qs5_2
      · exact qs5_3
      · exact qs5_4
    refine XS.go (s_tswO (tgt := 80) rfl qs5_o rfl) ?_
    refine XS.go (s_iconst (v := (-1)) rfl rfl) ?_
    cases hf
    exact XR.reti rfl rfl (fun hret => ⟨_, hret, ⟨rfl, rfl⟩, L3⟩)
  · rw [if_neg qc4] at hf
    refine XS.go (s_iconst (v := (-1)) rfl rfl) ?_
    cases hf
    exact XR.reti rfl rfl (fun hret => ⟨_, hret, ⟨rfl, rfl⟩, L3⟩)
