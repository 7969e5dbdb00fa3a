/-! Methods as functions of the heap -/
def b_m_isValue_122 (h : XH) : Option (Int32 × XH) := (some (0, h))
set_option maxRecDepth 20000 in
theorem kb_m_isValue_122 {l : Launch} {G : XG} {d : Nat} {h : XH} {r : Int32 × XH} (L0 : LY h) (hf : b_m_isValue_122 h = some r) : XR l G xEX12_isValue (d + 1) (122, [none, none, none, none, none], [], h) (fun C => ∃ v, xRet xEX12_isValue C v ∧ (C.2.2.2 = r.2 ∧ v = some (.int r.1)) ∧ LY r.2) := by
  unfold b_m_isValue_122 at hf
  refine XS.go (s_iconst (v := 0) rfl rfl) ?_
  refine XS.go (s_goto (tgt := 145) rfl rfl) ?_
  cases hf
  exact XR.retz rfl rfl (by decide) (fun hret => ⟨_, hret, ⟨rfl, rfl⟩, L0⟩)
def b_m_isValue_90 (x1 : Int64) (x3 : Int32) (y0 : Int32) (h : XH) : Option (Int32 × XH) := (if y0 = 0 then (if (lg_cmp x1 0) < 0 then (some (0, h)) else (if 0 ≤ (lg_cmp x1 (1 <<< ((Int32.toInt64 x3) &&& 63))) then (some (0, h)) else (some (1, h)))) else (if (lg_cmp x1 (-(1 <<< ((Int32.toInt64 (x3 - 1)) &&& 63)))) < 0 then (b_m_isValue_122 h) else (if 0 ≤ (lg_cmp x1 (1 <<< ((Int32.toInt64 (x3 - 1)) &&& 63))) then (b_m_isValue_122 h) else (some (1, h)))))
set_option maxRecDepth 20000 in
theorem kb_m_isValue_90 {l : Launch} {G : XG} {d : Nat} {x1 : Int64} {x3 : Int32} {y0 : Int32} {h : XH} {r : Int32 × XH} (L0 : LY h) (hf : b_m_isValue_90 x1 x3 y0 h = some r) : XR l G xEX12_isValue (d + 1) (90, [none, some (.long x1), none, some (.int x3), none], [(.int y0)], h) (fun C => ∃ v, xRet xEX12_isValue C v ∧ (C.2.2.2 = r.2 ∧ v = some (.int r.1)) ∧ LY r.2) := by
  unfold b_m_isValue_90 at hf
  refine XS.go (s_istore rfl (Nat.le_of_ble_eq_true rfl)) ?_
  refine XS.go (s_iload rfl rfl) ?_
  refine r_if_eq (tgt := 126) rfl rfl (fun qc1 => ?_) (fun qc1 => ?_)
  · rw [if_pos qc1] at hf
    refine XS.go (s_lloadn rfl rfl rfl) ?_
    refine XS.go (s_lconst (v := 0) rfl rfl) ?_
    refine XS.go (s_lcmp rfl) ?_
    refine r_if_lt (tgt := 144) rfl rfl (fun qc2 => ?_) (fun qc2 => ?_)
    · rw [if_pos qc2] at hf
      refine XS.go (s_iconst (v := 0) rfl rfl) ?_
      cases hf
      exact XR.retz rfl rfl (by decide) (fun hret => ⟨_, hret, ⟨rfl, rfl⟩, L0⟩)
    · rw [if_neg qc2] at hf
      refine XS.go (s_lloadn rfl rfl rfl) ?_
      refine XS.go (s_lconst (v := 1) rfl rfl) ?_
      refine XS.go (s_iloadn rfl rfl rfl) ?_
      refine XS.go (s_lshl rfl) ?_
      refine XS.go (s_lcmp rfl) ?_
      refine r_if_ge (tgt := 144) rfl rfl (fun qc3 => ?_) (fun qc3 => ?_)
      · rw [if_pos qc3] at hf
        refine XS.go (s_iconst (v := 0) rfl rfl) ?_
        cases hf
        exact XR.retz rfl rfl (by decide) (fun hret => ⟨_, hret, ⟨rfl, rfl⟩, L0⟩)
      · rw [if_neg qc3] at hf
        refine XS.go (s_iconst (v := 1) rfl rfl) ?_
        refine XS.go (s_goto (tgt := 145) rfl rfl) ?_
        cases hf
        exact XR.retz rfl rfl (by decide) (fun hret => ⟨_, hret, ⟨rfl, rfl⟩, L0⟩)
  · rw [if_neg qc1] at hf
    refine XS.go (s_lloadn rfl rfl rfl) ?_
    refine XS.go (s_lconst (v := 1) rfl rfl) ?_
    refine XS.go (s_iloadn rfl rfl rfl) ?_
    refine XS.go (s_iconst (v := 1) rfl rfl) ?_
    refine XS.go (s_isub rfl) ?_
    refine XS.go (s_lshl rfl) ?_
    refine XS.go (s_lneg rfl) ?_
    refine XS.go (s_lcmp rfl) ?_
    refine r_if_lt (tgt := 122) rfl rfl (fun qc4 => ?_) (fun qc4 => ?_)
    · rw [if_pos qc4] at hf
      exact XR.forget (L2 := [none, none, none, none, none]) trivial (kb_m_isValue_122 L0 hf)
    · rw [if_neg qc4] at hf
      refine XS.go (s_lloadn rfl rfl rfl) ?_
      refine XS.go (s_lconst (v := 1) rfl rfl) ?_
      refine XS.go (s_iloadn rfl rfl rfl) ?_
      refine XS.go (s_iconst (v := 1) rfl rfl) ?_
      refine XS.go (s_isub rfl) ?_
      refine XS.go (s_lshl rfl) ?_
      refine XS.go (s_lcmp rfl) ?_
      refine r_if_ge (tgt := 122) rfl rfl (fun qc5 => ?_) (fun qc5 => ?_)
      · rw [if_pos qc5] at hf
        exact XR.forget (L2 := [none, none, none, none, none]) trivial (kb_m_isValue_122 L0 hf)
      · rw [if_neg qc5] at hf
        refine XS.go (s_iconst (v := 1) rfl rfl) ?_
        refine XS.go (s_goto (tgt := 145) rfl rfl) ?_
        cases hf
        exact XR.retz rfl rfl (by decide) (fun hret => ⟨_, hret, ⟨rfl, rfl⟩, L0⟩)
def b_m_isValue_85 (x1 : Int64) (x3 : Int32) (h : XH) : Option (Int32 × XH) := (b_m_isValue_90 x1 x3 1 h)
set_option maxRecDepth 20000 in
theorem kb_m_isValue_85 {l : Launch} {G : XG} {d : Nat} {x1 : Int64} {x3 : Int32} {h : XH} {r : Int32 × XH} (L0 : LY h) (hf : b_m_isValue_85 x1 x3 h = some r) : XR l G xEX12_isValue (d + 1) (85, [none, some (.long x1), none, some (.int x3), none], [], h) (fun C => ∃ v, xRet xEX12_isValue C v ∧ (C.2.2.2 = r.2 ∧ v = some (.int r.1)) ∧ LY r.2) := by
  unfold b_m_isValue_85 at hf
  refine XS.go (s_iconst (v := 1) rfl rfl) ?_
  refine XS.go (s_goto (tgt := 90) rfl rfl) ?_
  exact XR.forget (L2 := [none, some (.long x1), none, some (.int x3), none]) ⟨rfl, ⟨rfl, trivial⟩⟩ (kb_m_isValue_90 L0 hf)
def b_m_isValue_16 (h : XH) : Option (Int32 × XH) := (some (1, h))
set_option maxRecDepth 20000 in
theorem kb_m_isValue_16 {l : Launch} {G : XG} {d : Nat} {h : XH} {r : Int32 × XH} (L0 : LY h) (hf : b_m_isValue_16 h = some r) : XR l G xEX12_isValue (d + 1) (16, [none, none, none, none, none], [], h) (fun C => ∃ v, xRet xEX12_isValue C v ∧ (C.2.2.2 = r.2 ∧ v = some (.int r.1)) ∧ LY r.2) := by
  unfold b_m_isValue_16 at hf
  refine XS.go (s_iconst (v := 1) rfl rfl) ?_
  refine XS.go (s_goto (tgt := 21) rfl rfl) ?_
  cases hf
  exact XR.retz rfl rfl (by decide) (fun hret => ⟨_, hret, ⟨rfl, rfl⟩, L0⟩)
def f_m_isValue (a0 : Int32) (a1 : Int64) (h : XH) : Option (Int32 × XH) := (if ¬ a0 = 0 then (if a0 = 7 then (some (1, h)) else (if a0 = 8 then (some (1, h)) else (if ¬ a0 = 10 then (if ¬ a0 = 9 then (match f_m_bytesOf a0 h with | none => none | some r11 => (if a0 = 1 then (b_m_isValue_85 a1 (8 * r11.1) r11.2) else (if a0 = 3 then (b_m_isValue_85 a1 (8 * r11.1) r11.2) else (if ¬ a0 = 5 then (b_m_isValue_90 a1 (8 * r11.1) 0 r11.2) else (b_m_isValue_85 a1 (8 * r11.1) r11.2))))) else (if ¬ (lg_cmp a1 (Int32.toInt64 (Int64.toInt32 a1))) = 0 then (some (0, h)) else (some (1, h)))) else (some (1, h))))) else (if (lg_cmp a1 0) = 0 then (b_m_isValue_16 h) else (if ¬ (lg_cmp a1 1) = 0 then (some (0, h)) else (b_m_isValue_16 h))))
set_option maxRecDepth 20000 in
theorem kf_m_isValue {l : Launch} {G : XG} {d : Nat} {a0 : Int32} {a1 : Int64} {h : XH} {r : Int32 × XH} (L0 : LY h) (hf : f_m_isValue a0 a1 h = some r) : XC l G xEX12_isValue (d + 1) [.int a0, .long a1] h (fun v h2 => (h2 = r.2 ∧ v = some (.int r.1)) ∧ LY r.2) := by
  refine XC.stat xsX12_isValue (Nat.le_of_ble_eq_true rfl) ?_
  unfold f_m_isValue at hf
  refine XS.go (s_iloadn rfl rfl rfl) ?_
  refine r_if_ne (tgt := 22) rfl rfl (fun qc6 => ?_) (fun qc6 => ?_)
  · rw [if_pos qc6] at hf
    refine XS.go (s_iloadn rfl rfl rfl) ?_
    refine XS.go (s_bipush (v := 7) rfl rfl) ?_
    refine r_icmp_eq (tgt := 40) rfl rfl (fun qc7 => ?_) (fun qc7 => ?_)
    · rw [if_pos qc7] at hf
      refine XS.go (s_iconst (v := 1) rfl rfl) ?_
      cases hf
      exact XR.retz rfl rfl (by decide) (fun hret => ⟨_, hret, ⟨rfl, rfl⟩, L0⟩)
    · rw [if_neg qc7] at hf
      refine XS.go (s_iloadn rfl rfl rfl) ?_
      refine XS.go (s_bipush (v := 8) rfl rfl) ?_
      refine r_icmp_eq (tgt := 40) rfl rfl (fun qc8 => ?_) (fun qc8 => ?_)
      · rw [if_pos qc8] at hf
        refine XS.go (s_iconst (v := 1) rfl rfl) ?_
        cases hf
        exact XR.retz rfl rfl (by decide) (fun hret => ⟨_, hret, ⟨rfl, rfl⟩, L0⟩)
      · rw [if_neg qc8] at hf
        refine XS.go (s_iloadn rfl rfl rfl) ?_
        refine XS.go (s_bipush (v := 10) rfl rfl) ?_
        refine r_icmp_ne (tgt := 42) rfl rfl (fun qc9 => ?_) (fun qc9 => ?_)
        · rw [if_pos qc9] at hf
          refine XS.go (s_iloadn rfl rfl rfl) ?_
          refine XS.go (s_bipush (v := 9) rfl rfl) ?_
          refine r_icmp_ne (tgt := 62) rfl rfl (fun qc10 => ?_) (fun qc10 => ?_)
          · rw [if_pos qc10] at hf
            refine XS.go (s_bipush (v := 8) rfl rfl) ?_
            refine XS.go (s_iloadn rfl rfl rfl) ?_
            rcases e12 : f_m_bytesOf a0 h with _ | r11
            · rw [e12] at hf; cases hf
            rw [e12] at hf; dsimp only at hf
            refine r_calls rfl xsX12_bytesOf xm12_315 (kf_m_bytesOf (d := d) L0 e12) rfl rfl (by omega) (by decide) (Nat.le_of_ble_eq_true rfl) ?_
            rintro _ _ ⟨⟨rfl, rfl⟩, L13⟩
            refine XS.go (s_imul rfl) ?_
            refine XS.go (s_istoren rfl rfl (Nat.le_of_ble_eq_true rfl)) ?_
            refine XS.go (s_iloadn rfl rfl rfl) ?_
            refine XS.go (s_iconst (v := 1) rfl rfl) ?_
            refine r_icmp_eq (tgt := 85) rfl rfl (fun qc14 => ?_) (fun qc14 => ?_)
            · rw [if_pos qc14] at hf
              exact XR.forget (L2 := [none, some (.long a1), none, some (.int (8 * r11.1)), none]) ⟨rfl, ⟨rfl, trivial⟩⟩ (kb_m_isValue_85 L13 hf)
            · rw [if_neg qc14] at hf
              refine XS.go (s_iloadn rfl rfl rfl) ?_
              refine XS.go (s_iconst (v := 3) rfl rfl) ?_
              refine r_icmp_eq (tgt := 85) rfl rfl (fun qc15 => ?_) (fun qc15 => ?_)
              · rw [if_pos qc15] at hf
                exact XR.forget (L2 := [none, some (.long a1), none, some (.int (8 * r11.1)), none]) ⟨rfl, ⟨rfl, trivial⟩⟩ (kb_m_isValue_85 L13 hf)
              · rw [if_neg qc15] at hf
                refine XS.go (s_iloadn rfl rfl rfl) ?_
                refine XS.go (s_iconst (v := 5) rfl rfl) ?_
                refine r_icmp_ne (tgt := 89) rfl rfl (fun qc16 => ?_) (fun qc16 => ?_)
                · rw [if_pos qc16] at hf
                  refine XS.go (s_iconst (v := 0) rfl rfl) ?_
                  exact XR.forget (L2 := [none, some (.long a1), none, some (.int (8 * r11.1)), none]) ⟨rfl, ⟨rfl, trivial⟩⟩ (kb_m_isValue_90 L13 hf)
                · rw [if_neg qc16] at hf
                  exact XR.forget (L2 := [none, some (.long a1), none, some (.int (8 * r11.1)), none]) ⟨rfl, ⟨rfl, trivial⟩⟩ (kb_m_isValue_85 L13 hf)
          · rw [if_neg qc10] at hf
            refine XS.go (s_lloadn rfl rfl rfl) ?_
            refine XS.go (s_lloadn rfl rfl rfl) ?_
            refine XS.go (s_l2i rfl) ?_
            refine XS.go (s_i2l rfl) ?_
            refine XS.go (s_lcmp rfl) ?_
            refine r_if_ne (tgt := 60) rfl rfl (fun qc17 => ?_) (fun qc17 => ?_)
            · rw [if_pos qc17] at hf
              refine XS.go (s_iconst (v := 0) rfl rfl) ?_
              cases hf
              exact XR.retz rfl rfl (by decide) (fun hret => ⟨_, hret, ⟨rfl, rfl⟩, L0⟩)
            · rw [if_neg qc17] at hf
              refine XS.go (s_iconst (v := 1) rfl rfl) ?_
              refine XS.go (s_goto (tgt := 61) rfl rfl) ?_
              cases hf
              exact XR.retz rfl rfl (by decide) (fun hret => ⟨_, hret, ⟨rfl, rfl⟩, L0⟩)
        · rw [if_neg qc9] at hf
          refine XS.go (s_iconst (v := 1) rfl rfl) ?_
          cases hf
          exact XR.retz rfl rfl (by decide) (fun hret => ⟨_, hret, ⟨rfl, rfl⟩, L0⟩)
  · rw [if_neg qc6] at hf
    refine XS.go (s_lloadn rfl rfl rfl) ?_
    refine XS.go (s_lconst (v := 0) rfl rfl) ?_
    refine XS.go (s_lcmp rfl) ?_
    refine r_if_eq (tgt := 16) rfl rfl (fun qc18 => ?_) (fun qc18 => ?_)
    · rw [if_pos qc18] at hf
      exact XR.forget (L2 := [none, none, none, none, none]) trivial (kb_m_isValue_16 L0 hf)
    · rw [if_neg qc18] at hf
      refine XS.go (s_lloadn rfl rfl rfl) ?_
      refine XS.go (s_lconst (v := 1) rfl rfl) ?_
      refine XS.go (s_lcmp rfl) ?_
      refine r_if_ne (tgt := 20) rfl rfl (fun qc19 => ?_) (fun qc19 => ?_)
      · rw [if_pos qc19] at hf
        refine XS.go (s_iconst (v := 0) rfl rfl) ?_
        cases hf
        exact XR.retz rfl rfl (by decide) (fun hret => ⟨_, hret, ⟨rfl, rfl⟩, L0⟩)
      · rw [if_neg qc19] at hf
        exact XR.forget (L2 := [none, none, none, none, none]) trivial (kb_m_isValue_16 L0 hf)
def b_m_defaults_220 (x1 : Int32) (x3 : Int64) (h : XH) : Option (Unit × XH) := (if 0 ≤ x1 ∧ x1 < nI 256 then (match f_m_take (hsj h 1291 (Int32.toNatClampNeg x1) x3) with | none => none | some r2 => (some ((), r2.2))) else none)
set_option maxRecDepth 20000 in
theorem kb_m_defaults_220 {l : Launch} {G : XG} {d : Nat} {x1 : Int32} {x3 : Int64} {h : XH} {r : Unit × XH} (L0 : LY h) (hf : b_m_defaults_220 x1 x3 h = some r) : XR l G xEX12_defaults (d + 2) (220, [some (.ref 1262), some (.int x1), none, some (.long x3), none, none], [], h) (fun C => ∃ v, xRet xEX12_defaults C v ∧ (C.2.2.2 = r.2 ∧ v = none) ∧ LY r.2) := by
  unfold b_m_defaults_220 at hf
  refine XS.go (s_aloadn rfl rfl rfl) ?_
  refine XS.go (s_getr rfl xf12_94 (LY.lt L0 (by decide)) (LY.k1262 L0) (by decide) rfl (LY.r1262_40 L0)) ?_
  refine XS.go (s_iloadn rfl rfl rfl) ?_
  refine XS.go (s_lloadn rfl rfl rfl) ?_
  by_cases qk1 : 0 ≤ x1 ∧ x1 < nI 256
  rotate_left
  · rw [if_neg qk1] at hf; cases hf
  rw [if_pos qk1] at hf
  refine XS.go (s_last rfl (LY.lt L0 (by decide)) (LY.k1291 L0) (inLit (LY.n1291 L0) qk1.1 qk1.2 (by decide))) ?_
  refine XS.go (s_aloadn rfl rfl rfl) ?_
  rcases e3 : f_m_take (hsj h 1291 (Int32.toNatClampNeg x1) x3) with _ | r2
  · rw [e3] at hf; cases hf
  rw [e3] at hf; dsimp only at hf
  refine r_callv rfl xvX12_take xm12_240 (kf_m_take (d := d) (by simp only [LY_si, LY_sj]; exact L0) e3) (LY.lt (by simp only [LY_si, LY_sj]; exact L0) (by decide)) (LY.k1262 (by simp only [LY_si, LY_sj]; exact L0)) (by decide) rfl rfl (by omega) (by decide) (Nat.le_of_ble_eq_true rfl) ?_
  rintro _ _ ⟨⟨rfl, rfl⟩, L4⟩
  cases hf
  exact XR.retv rfl rfl (fun hret => ⟨_, hret, ⟨rfl, rfl⟩, L4⟩)
def b_m_defaults_213 (h : XH) : Option (Unit × XH) := (match f_m_flaw 6 h with | none => none | some r5 => (some ((), r5.2)))
set_option maxRecDepth 20000 in
theorem kb_m_defaults_213 {l : Launch} {G : XG} {d : Nat} {h : XH} {r : Unit × XH} (L0 : LY h) (hf : b_m_defaults_213 h = some r) : XR l G xEX12_defaults (d + 2) (213, [some (.ref 1262), none, none, none, none, none], [], h) (fun C => ∃ v, xRet xEX12_defaults C v ∧ (C.2.2.2 = r.2 ∧ v = none) ∧ LY r.2) := by
  unfold b_m_defaults_213 at hf
  refine XS.go (s_aloadn rfl rfl rfl) ?_
  refine XS.go (s_bipush (v := 6) rfl rfl) ?_
  rcases e6 : f_m_flaw 6 h with _ | r5
  · rw [e6] at hf; cases hf
  rw [e6] at hf; dsimp only at hf
  refine r_callv rfl xvX12_flaw xm12_230 (kf_m_flaw (d := d) L0 e6) (LY.lt L0 (by decide)) (LY.k1262 L0) (by decide) rfl rfl (by omega) (by decide) (Nat.le_of_ble_eq_true rfl) ?_
  rintro _ _ ⟨⟨rfl, rfl⟩, L7⟩
  cases hf
  exact XR.retv rfl rfl (fun hret => ⟨_, hret, ⟨rfl, rfl⟩, L7⟩)
def b_m_defaults_182 (x1 : Int32) (y0 : Int64) (h : XH) : Option (Unit × XH) := (if 0 ≤ x1 ∧ x1 < nI 256 then (match f_m_isValue (hi h 1287 (Int32.toNatClampNeg x1)) y0 h with | none => none | some r9 => (if r9.1 = 0 then (b_m_defaults_213 r9.2) else (if 0 ≤ x1 ∧ x1 < nI 256 then (if ¬ (hi r9.2 1287 (Int32.toNatClampNeg x1)) = 8 then (b_m_defaults_220 x1 y0 r9.2) else (if 0 ≤ (lg_cmp y0 0) then (b_m_defaults_220 x1 y0 r9.2) else (b_m_defaults_213 r9.2))) else none))) else none)
set_option maxRecDepth 20000 in
theorem kb_m_defaults_182 {l : Launch} {G : XG} {d : Nat} {x1 : Int32} {y0 : Int64} {h : XH} {r : Unit × XH} (L0 : LY h) (hf : b_m_defaults_182 x1 y0 h = some r) : XR l G xEX12_defaults (d + 2) (182, [some (.ref 1262), some (.int x1), none, none, none, none], [(.long y0)], h) (fun C => ∃ v, xRet xEX12_defaults C v ∧ (C.2.2.2 = r.2 ∧ v = none) ∧ LY r.2) := by
  unfold b_m_defaults_182 at hf
  refine XS.go (s_lstoren rfl rfl (Nat.le_of_ble_eq_true rfl)) ?_
  refine XS.go (s_aloadn rfl rfl rfl) ?_
  refine XS.go (s_getr rfl xf12_82 (LY.lt L0 (by decide)) (LY.k1262 L0) (by decide) rfl (LY.r1262_36 L0)) ?_
  refine XS.go (s_iloadn rfl rfl rfl) ?_
  by_cases qk8 : 0 ≤ x1 ∧ x1 < nI 256
  rotate_left
  · rw [if_neg qk8] at hf; cases hf
  rw [if_pos qk8] at hf
  refine XS.go (s_ialde rfl (LY.lt L0 (by decide)) (LY.k1287 L0) (inLit (LY.n1287 L0) qk8.1 qk8.2 (by decide)) rfl) ?_
  refine XS.go (s_lloadn rfl rfl rfl) ?_
  rcases e10 : f_m_isValue (hi h 1287 (Int32.toNatClampNeg x1)) y0 h with _ | r9
  · rw [e10] at hf; cases hf
  rw [e10] at hf; dsimp only at hf
  refine r_calls rfl xsX12_isValue xm12_334 (kf_m_isValue (d := d) L0 e10) rfl rfl (by omega) (by decide) (Nat.le_of_ble_eq_true rfl) ?_
  rintro _ _ ⟨⟨rfl, rfl⟩, L11⟩
  refine r_if_eq (tgt := 213) rfl rfl (fun qc12 => ?_) (fun qc12 => ?_)
  · rw [if_pos qc12] at hf
    exact XR.forget (L2 := [some (.ref 1262), none, none, none, none, none]) ⟨rfl, trivial⟩ (kb_m_defaults_213 L11 hf)
  · rw [if_neg qc12] at hf
    refine XS.go (s_aloadn rfl rfl rfl) ?_
    refine XS.go (s_getr rfl xf12_82 (LY.lt L11 (by decide)) (LY.k1262 L11) (by decide) rfl (LY.r1262_36 L11)) ?_
    refine XS.go (s_iloadn rfl rfl rfl) ?_
    by_cases qk13 : 0 ≤ x1 ∧ x1 < nI 256
    rotate_left
    · rw [if_neg qk13] at hf; cases hf
    rw [if_pos qk13] at hf
    refine XS.go (s_ialde rfl (LY.lt L11 (by decide)) (LY.k1287 L11) (inLit (LY.n1287 L11) qk13.1 qk13.2 (by decide)) rfl) ?_
    refine XS.go (s_bipush (v := 8) rfl rfl) ?_
    refine r_icmp_ne (tgt := 220) rfl rfl (fun qc14 => ?_) (fun qc14 => ?_)
    · rw [if_pos qc14] at hf
      exact XR.forget (L2 := [some (.ref 1262), some (.int x1), none, some (.long y0), none, none]) ⟨rfl, ⟨rfl, ⟨rfl, trivial⟩⟩⟩ (kb_m_defaults_220 L11 hf)
    · rw [if_neg qc14] at hf
      refine XS.go (s_lloadn rfl rfl rfl) ?_
      refine XS.go (s_lconst (v := 0) rfl rfl) ?_
      refine XS.go (s_lcmp rfl) ?_
      refine r_if_ge (tgt := 220) rfl rfl (fun qc15 => ?_) (fun qc15 => ?_)
      · rw [if_pos qc15] at hf
        exact XR.forget (L2 := [some (.ref 1262), some (.int x1), none, some (.long y0), none, none]) ⟨rfl, ⟨rfl, ⟨rfl, trivial⟩⟩⟩ (kb_m_defaults_220 L11 hf)
      · rw [if_neg qc15] at hf
        exact XR.forget (L2 := [some (.ref 1262), none, none, none, none, none]) ⟨rfl, trivial⟩ (kb_m_defaults_213 L11 hf)
def s_m_defaults_133 (K133 : Int32 → Int32 → Int64 → Int32 → XH → Option (Unit × XH)) (x1 : Int32) (x2 : Int32) (x3 : Int64) (x5 : Int32) (h : XH) : Option (Unit × XH) := (if 0 ≤ (hi h 1262 13) ∧ (hi h 1262 13) < nI 4001 then (if (hi h 1268 (Int32.toNatClampNeg (hi h 1262 13))) ≤ x5 then (if x2 = 0 then (b_m_defaults_182 x1 x3 h) else (b_m_defaults_182 x1 (-x3) h)) else (if 0 ≤ x5 ∧ x5 < nI 4000 then (K133 x1 x2 (((10 * x3) + (Int32.toInt64 (hi h 1264 (Int32.toNatClampNeg x5)))) - 48) (x5 + 1) h) else none)) else none)
set_option maxRecDepth 20000 in
theorem ks_m_defaults_133 {l : Launch} {G : XG} {d : Nat} {K133 : Int32 → Int32 → Int64 → Int32 → XH → Option (Unit × XH)} {x1 : Int32} {x2 : Int32} {x3 : Int64} {x5 : Int32} {h : XH} {r : Unit × XH} (hK133 : ∀ (x1 : Int32) (x2 : Int32) (x3 : Int64) (x5 : Int32) (h : XH), LY h → K133 x1 x2 x3 x5 h = some r → XR l G xEX12_defaults (d + 2) (133, [some (.ref 1262), some (.int x1), some (.int x2), some (.long x3), none, some (.int x5)], [], h) (fun C => ∃ v, xRet xEX12_defaults C v ∧ (C.2.2.2 = r.2 ∧ v = none) ∧ LY r.2)) (L0 : LY h) (hf : s_m_defaults_133 K133 x1 x2 x3 x5 h = some r) : XR l G xEX12_defaults (d + 2) (133, [some (.ref 1262), some (.int x1), some (.int x2), some (.long x3), none, some (.int x5)], [], h) (fun C => ∃ v, xRet xEX12_defaults C v ∧ (C.2.2.2 = r.2 ∧ v = none) ∧ LY r.2) := by
  unfold s_m_defaults_133 at hf
  refine XS.go (s_iload rfl rfl) ?_
  refine XS.go (s_aloadn rfl rfl rfl) ?_
  refine XS.go (s_getr rfl xf12_25 (LY.lt L0 (by decide)) (LY.k1262 L0) (by decide) rfl (LY.r1262_10 L0)) ?_
  refine XS.go (s_aloadn rfl rfl rfl) ?_
  refine XS.go (s_getie rfl xf12_224 (LY.lt L0 (by decide)) (LY.k1262 L0) (by decide) rfl rfl) ?_
  by_cases qk16 : 0 ≤ (hi h 1262 13) ∧ (hi h 1262 13) < nI 4001
  rotate_left
  · rw [if_neg qk16] at hf; cases hf
  rw [if_pos qk16] at hf
  refine XS.go (s_ialde rfl (LY.lt L0 (by decide)) (LY.k1268 L0) (inLit (LY.n1268 L0) qk16.1 qk16.2 (by decide)) rfl) ?_
  refine r_icmp_ge (tgt := 172) rfl rfl (fun qc17 => ?_) (fun qc17 => ?_)
  · rw [if_pos qc17] at hf
    refine XS.go (s_iloadn rfl rfl rfl) ?_
    refine r_if_eq (tgt := 181) rfl rfl (fun qc18 => ?_) (fun qc18 => ?_)
    · rw [if_pos qc18] at hf
      refine XS.go (s_lloadn rfl rfl rfl) ?_
      exact XR.forget (L2 := [some (.ref 1262), some (.int x1), none, none, none, none]) ⟨rfl, ⟨rfl, trivial⟩⟩ (kb_m_defaults_182 L0 hf)
    · rw [if_neg qc18] at hf
      refine XS.go (s_lloadn rfl rfl rfl) ?_
      refine XS.go (s_lneg rfl) ?_
      refine XS.go (s_goto (tgt := 182) rfl rfl) ?_
      exact XR.forget (L2 := [some (.ref 1262), some (.int x1), none, none, none, none]) ⟨rfl, ⟨rfl, trivial⟩⟩ (kb_m_defaults_182 L0 hf)
  · rw [if_neg qc17] at hf
    refine XS.go (s_ldc2 rfl (lg_9 2 rfl rfl)) ?_
    refine XS.go (s_lloadn rfl rfl rfl) ?_
    refine XS.go (s_lmul rfl) ?_
    refine XS.go (s_aloadn rfl rfl rfl) ?_
    refine XS.go (s_getr rfl xf12_13 (LY.lt L0 (by decide)) (LY.k1262 L0) (by decide) rfl (LY.r1262_3 L0)) ?_
    refine XS.go (s_iload rfl rfl) ?_
    by_cases qk19 : 0 ≤ x5 ∧ x5 < nI 4000
    rotate_left
    · rw [if_neg qk19] at hf; cases hf
    rw [if_pos qk19] at hf
    refine XS.go (s_ialde rfl (LY.lt L0 (by decide)) (LY.k1264 L0) (inLit (LY.n1264 L0) qk19.1 qk19.2 (by decide)) rfl) ?_
    refine XS.go (s_i2l rfl) ?_
    refine XS.go (s_ladd rfl) ?_
    refine XS.go (s_ldc2 rfl (lg_9 3 rfl rfl)) ?_
    refine XS.go (s_lsub rfl) ?_
    refine XS.go (s_lstoren rfl rfl (Nat.le_of_ble_eq_true rfl)) ?_
    refine XS.go (s_inc rfl rfl (Nat.le_of_ble_eq_true rfl)) ?_
    refine XS.go (s_goto (tgt := 133) rfl rfl) ?_
    exact XR.forget (L2 := [some (.ref 1262), some (.int x1), some (.int x2), some (.long (((10 * x3) + (Int32.toInt64 (hi h 1264 (Int32.toNatClampNeg x5)))) - 48)), none, some (.int (x5 + 1))]) ⟨rfl, ⟨rfl, ⟨rfl, ⟨rfl, ⟨rfl, trivial⟩⟩⟩⟩⟩ (hK133 x1 x2 (((10 * x3) + (Int32.toInt64 (hi h 1264 (Int32.toNatClampNeg x5)))) - 48) (x5 + 1) _ L0 hf)
def b_m_defaults_133 : Nat → Int32 → Int32 → Int64 → Int32 → XH → Option (Unit × XH)
  | 0, _, _, _, _, _ => none
  | n + 1, x1, x2, x3, x5, h => s_m_defaults_133 (b_m_defaults_133 n) x1 x2 x3 x5 h
theorem kb_m_defaults_133 {l : Launch} {G : XG} {d : Nat} {n : Nat} {x1 : Int32} {x2 : Int32} {x3 : Int64} {x5 : Int32} {h : XH} {r : Unit × XH} (L0 : LY h) (hf : b_m_defaults_133 n x1 x2 x3 x5 h = some r) : XR l G xEX12_defaults (d + 2) (133, [some (.ref 1262), some (.int x1), some (.int x2), some (.long x3), none, some (.int x5)], [], h) (fun C => ∃ v, xRet xEX12_defaults C v ∧ (C.2.2.2 = r.2 ∧ v = none) ∧ LY r.2) := by
  induction n generalizing x1 x2 x3 x5 h with
  | zero => cases hf
  | succ n ih => exact ks_m_defaults_133 (fun x1 x2 x3 x5 h L0 hf => ih (h := h) (x1 := x1) (x2 := x2) (x3 := x3) (x5 := x5) L0 hf) L0 hf
def b_m_defaults_130 (x1 : Int32) (x2 : Int32) (x3 : Int64) (y0 : Int32) (y1 : Int32) (h : XH) : Option (Unit × XH) := (b_m_defaults_133 100000 x1 x2 x3 (y0 + y1) h)
set_option maxRecDepth 20000 in
theorem kb_m_defaults_130 {l : Launch} {G : XG} {d : Nat} {x1 : Int32} {x2 : Int32} {x3 : Int64} {y0 : Int32} {y1 : Int32} {h : XH} {r : Unit × XH} (L0 : LY h) (hf : b_m_defaults_130 x1 x2 x3 y0 y1 h = some r) : XR l G xEX12_defaults (d + 2) (130, [some (.ref 1262), some (.int x1), some (.int x2), some (.long x3), none, none], [(.int y1), (.int y0)], h) (fun C => ∃ v, xRet xEX12_defaults C v ∧ (C.2.2.2 = r.2 ∧ v = none) ∧ LY r.2) := by
  unfold b_m_defaults_130 at hf
  refine XS.go (s_iadd rfl) ?_
  refine XS.go (s_istore rfl (Nat.le_of_ble_eq_true rfl)) ?_
  exact XR.forget (L2 := [some (.ref 1262), some (.int x1), some (.int x2), some (.long x3), none, some (.int (y0 + y1))]) ⟨rfl, ⟨rfl, ⟨rfl, ⟨rfl, ⟨rfl, trivial⟩⟩⟩⟩⟩ (kb_m_defaults_133 L0 hf)
def b_m_defaults_109 (x1 : Int32) (y0 : Int32) (h : XH) : Option (Unit × XH) := (if 0 ≤ (hi h 1262 13) ∧ (hi h 1262 13) < nI 4001 then (if y0 = 0 then (b_m_defaults_130 x1 y0 0 (hi h 1267 (Int32.toNatClampNeg (hi h 1262 13))) 0 h) else (b_m_defaults_130 x1 y0 0 (hi h 1267 (Int32.toNatClampNeg (hi h 1262 13))) 1 h)) else none)
set_option maxRecDepth 20000 in
theorem kb_m_defaults_109 {l : Launch} {G : XG} {d : Nat} {x1 : Int32} {y0 : Int32} {h : XH} {r : Unit × XH} (L0 : LY h) (hf : b_m_defaults_109 x1 y0 h = some r) : XR l G xEX12_defaults (d + 2) (109, [some (.ref 1262), some (.int x1), none, none, none, none], [(.int y0)], h) (fun C => ∃ v, xRet xEX12_defaults C v ∧ (C.2.2.2 = r.2 ∧ v = none) ∧ LY r.2) := by
  unfold b_m_defaults_109 at hf
  refine XS.go (s_istoren rfl rfl (Nat.le_of_ble_eq_true rfl)) ?_
  refine XS.go (s_lconst (v := 0) rfl rfl) ?_
  refine XS.go (s_lstoren rfl rfl (Nat.le_of_ble_eq_true rfl)) ?_
  refine XS.go (s_aloadn rfl rfl rfl) ?_
  refine XS.go (s_getr rfl xf12_22 (LY.lt L0 (by decide)) (LY.k1262 L0) (by decide) rfl (LY.r1262_9 L0)) ?_
  refine XS.go (s_aloadn rfl rfl rfl) ?_
  refine XS.go (s_getie rfl xf12_224 (LY.lt L0 (by decide)) (LY.k1262 L0) (by decide) rfl rfl) ?_
  by_cases qk20 : 0 ≤ (hi h 1262 13) ∧ (hi h 1262 13) < nI 4001
  rotate_left
  · rw [if_neg qk20] at hf; cases hf
  rw [if_pos qk20] at hf
  refine XS.go (s_ialde rfl (LY.lt L0 (by decide)) (LY.k1267 L0) (inLit (LY.n1267 L0) qk20.1 qk20.2 (by decide)) rfl) ?_
  refine XS.go (s_iloadn rfl rfl rfl) ?_
  refine r_if_eq (tgt := 129) rfl rfl (fun qc21 => ?_) (fun qc21 => ?_)
  · rw [if_pos qc21] at hf
    refine XS.go (s_iconst (v := 0) rfl rfl) ?_
    exact XR.forget (L2 := [some (.ref 1262), some (.int x1), some (.int y0), some (.long 0), none, none]) ⟨rfl, ⟨rfl, ⟨rfl, ⟨rfl, trivial⟩⟩⟩⟩ (kb_m_defaults_130 L0 hf)
  · rw [if_neg qc21] at hf
    refine XS.go (s_iconst (v := 1) rfl rfl) ?_
    refine XS.go (s_goto (tgt := 130) rfl rfl) ?_
    exact XR.forget (L2 := [some (.ref 1262), some (.int x1), some (.int y0), some (.long 0), none, none]) ⟨rfl, ⟨rfl, ⟨rfl, ⟨rfl, trivial⟩⟩⟩⟩ (kb_m_defaults_130 L0 hf)
def b_m_defaults_56 (h : XH) : Option (Unit × XH) := (match f_m_flaw 7 h with | none => none | some r22 => (some ((), r22.2)))
set_option maxRecDepth 20000 in
theorem kb_m_defaults_56 {l : Launch} {G : XG} {d : Nat} {h : XH} {r : Unit × XH} (L0 : LY h) (hf : b_m_defaults_56 h = some r) : XR l G xEX12_defaults (d + 2) (56, [some (.ref 1262), none, none, none, none, none], [], h) (fun C => ∃ v, xRet xEX12_defaults C v ∧ (C.2.2.2 = r.2 ∧ v = none) ∧ LY r.2) := by
  unfold b_m_defaults_56 at hf
  refine XS.go (s_aloadn rfl rfl rfl) ?_
  refine XS.go (s_bipush (v := 7) rfl rfl) ?_
  rcases e23 : f_m_flaw 7 h with _ | r22
  · rw [e23] at hf; cases hf
  rw [e23] at hf; dsimp only at hf
  refine r_callv rfl xvX12_flaw xm12_230 (kf_m_flaw (d := d) L0 e23) (LY.lt L0 (by decide)) (LY.k1262 L0) (by decide) rfl rfl (by omega) (by decide) (Nat.le_of_ble_eq_true rfl) ?_
  rintro _ _ ⟨⟨rfl, rfl⟩, L24⟩
  cases hf
  exact XR.retv rfl rfl (fun hret => ⟨_, hret, ⟨rfl, rfl⟩, L24⟩)
def f_m_defaults (a0 : Int32) (h : XH) : Option (Unit × XH) := (if (hi h 1262 14) = 0 then (if 0 ≤ a0 ∧ a0 < nI 256 then (match f_m_isSign 61 (hsj h 1291 (Int32.toNatClampNeg a0) 0) with | none => none | some r27 => (if ¬ r27.1 = 0 then (if 0 ≤ a0 ∧ a0 < nI 256 then (if ¬ (hi r27.2 1286 (Int32.toNatClampNeg a0)) = 0 then (b_m_defaults_56 r27.2) else (if (hi r27.2 1287 (Int32.toNatClampNeg a0)) = 9 then (b_m_defaults_56 r27.2) else (if ¬ (hi r27.2 1287 (Int32.toNatClampNeg a0)) = 10 then (match f_m_take r27.2 with | none => none | some r35 => (if 0 ≤ (hi r35.2 1262 13) ∧ (hi r35.2 1262 13) < nI 4001 then (if (hi r35.2 1266 (Int32.toNatClampNeg (hi r35.2 1262 13))) = 3 then (if 0 ≤ (hi r35.2 1267 (Int32.toNatClampNeg (hi r35.2 1262 13))) ∧ (hi r35.2 1267 (Int32.toNatClampNeg (hi r35.2 1262 13))) < nI 4000 then (if ¬ (hi r35.2 1264 (Int32.toNatClampNeg (hi r35.2 1267 (Int32.toNatClampNeg (hi r35.2 1262 13))))) = 45 then (b_m_defaults_109 a0 0 r35.2) else (b_m_defaults_109 a0 1 r35.2)) else none) else (match f_m_misfit r35.2 with | none => none | some r42 => (some ((), r42.2)))) else none)) else (b_m_defaults_56 r27.2)))) else none) else (some ((), r27.2)))) else none) else (some ((), h)))
set_option maxRecDepth 20000 in
theorem kf_m_defaults {l : Launch} {G : XG} {d : Nat} {a0 : Int32} {h : XH} {r : Unit × XH} (L0 : LY h) (hf : f_m_defaults a0 h = some r) : XC l G xEX12_defaults (d + 2) [.ref 1262, .int a0] h (fun v h2 => (h2 = r.2 ∧ v = none) ∧ LY r.2) := by
  refine XC.virt xvX12_defaults (Nat.le_of_ble_eq_true rfl) ?_
  unfold f_m_defaults at hf
  refine XS.go (s_aloadn rfl rfl rfl) ?_
  refine XS.go (s_getie rfl xf12_221 (LY.lt L0 (by decide)) (LY.k1262 L0) (by decide) rfl rfl) ?_
  refine r_if_eq (tgt := 8) rfl rfl (fun qc25 => ?_) (fun qc25 => ?_)
  · rw [if_pos qc25] at hf
    refine XS.go (s_aloadn rfl rfl rfl) ?_
    refine XS.go (s_getr rfl xf12_94 (LY.lt L0 (by decide)) (LY.k1262 L0) (by decide) rfl (LY.r1262_40 L0)) ?_
    refine XS.go (s_iloadn rfl rfl rfl) ?_
    refine XS.go (s_lconst (v := 0) rfl rfl) ?_
    by_cases qk26 : 0 ≤ a0 ∧ a0 < nI 256
    rotate_left
    · rw [if_neg qk26] at hf; cases hf
    rw [if_pos qk26] at hf
    refine XS.go (s_last rfl (LY.lt L0 (by decide)) (LY.k1291 L0) (inLit (LY.n1291 L0) qk26.1 qk26.2 (by decide))) ?_
    refine XS.go (s_aloadn rfl rfl rfl) ?_
    refine XS.go (s_bipush (v := 61) rfl rfl) ?_
    rcases e28 : f_m_isSign 61 (hsj h 1291 (Int32.toNatClampNeg a0) 0) with _ | r27
    · rw [e28] at hf; cases hf
    rw [e28] at hf; dsimp only at hf
    refine r_callv rfl xvX12_isSign xm12_234 (kf_m_isSign (d := d) (by simp only [LY_si, LY_sj]; exact L0) e28) (LY.lt (by simp only [LY_si, LY_sj]; exact L0) (by decide)) (LY.k1262 (by simp only [LY_si, LY_sj]; exact L0)) (by decide) rfl rfl (by omega) (by decide) (Nat.le_of_ble_eq_true rfl) ?_
    rintro _ _ ⟨⟨rfl, rfl⟩, L29⟩
    refine r_if_ne (tgt := 25) rfl rfl (fun qc30 => ?_) (fun qc30 => ?_)
    · rw [if_pos qc30] at hf
      refine XS.go (s_aloadn rfl rfl rfl) ?_
      refine XS.go (s_getr rfl xf12_79 (LY.lt L29 (by decide)) (LY.k1262 L29) (by decide) rfl (LY.r1262_35 L29)) ?_
      refine XS.go (s_iloadn rfl rfl rfl) ?_
      by_cases qk31 : 0 ≤ a0 ∧ a0 < nI 256
      rotate_left
      · rw [if_neg qk31] at hf; cases hf
      rw [if_pos qk31] at hf
      refine XS.go (s_ialde rfl (LY.lt L29 (by decide)) (LY.k1286 L29) (inLit (LY.n1286 L29) qk31.1 qk31.2 (by decide)) rfl) ?_
      refine r_if_ne (tgt := 56) rfl rfl (fun qc32 => ?_) (fun qc32 => ?_)
      · rw [if_pos qc32] at hf
        exact XR.forget (L2 := [some (.ref 1262), none, none, none, none, none]) ⟨rfl, trivial⟩ (kb_m_defaults_56 L29 hf)
      · rw [if_neg qc32] at hf
        refine XS.go (s_aloadn rfl rfl rfl) ?_
        refine XS.go (s_getr rfl xf12_82 (LY.lt L29 (by decide)) (LY.k1262 L29) (by decide) rfl (LY.r1262_36 L29)) ?_
        refine XS.go (s_iloadn rfl rfl rfl) ?_
        refine XS.go (s_ialde rfl (LY.lt L29 (by decide)) (LY.k1287 L29) (inLit (LY.n1287 L29) qk31.1 qk31.2 (by decide)) rfl) ?_
        refine XS.go (s_bipush (v := 9) rfl rfl) ?_
        refine r_icmp_eq (tgt := 56) rfl rfl (fun qc33 => ?_) (fun qc33 => ?_)
        · rw [if_pos qc33] at hf
          exact XR.forget (L2 := [some (.ref 1262), none, none, none, none, none]) ⟨rfl, trivial⟩ (kb_m_defaults_56 L29 hf)
        · rw [if_neg qc33] at hf
          refine XS.go (s_aloadn rfl rfl rfl) ?_
          refine XS.go (s_getr rfl xf12_82 (LY.lt L29 (by decide)) (LY.k1262 L29) (by decide) rfl (LY.r1262_36 L29)) ?_
          refine XS.go (s_iloadn rfl rfl rfl) ?_
          refine XS.go (s_ialde rfl (LY.lt L29 (by decide)) (LY.k1287 L29) (inLit (LY.n1287 L29) qk31.1 qk31.2 (by decide)) rfl) ?_
          refine XS.go (s_bipush (v := 10) rfl rfl) ?_
          refine r_icmp_ne (tgt := 63) rfl rfl (fun qc34 => ?_) (fun qc34 => ?_)
          · rw [if_pos qc34] at hf
            refine XS.go (s_aloadn rfl rfl rfl) ?_
            rcases e36 : f_m_take r27.2 with _ | r35
            · rw [e36] at hf; cases hf
            rw [e36] at hf; dsimp only at hf
            refine r_callv rfl xvX12_take xm12_240 (kf_m_take (d := d) L29 e36) (LY.lt L29 (by decide)) (LY.k1262 L29) (by decide) rfl rfl (by omega) (by decide) (Nat.le_of_ble_eq_true rfl) ?_
            rintro _ _ ⟨⟨rfl, rfl⟩, L37⟩
            refine XS.go (s_aloadn rfl rfl rfl) ?_
            refine XS.go (s_getr rfl xf12_19 (LY.lt L37 (by decide)) (LY.k1262 L37) (by decide) rfl (LY.r1262_8 L37)) ?_
            refine XS.go (s_aloadn rfl rfl rfl) ?_
            refine XS.go (s_getie rfl xf12_224 (LY.lt L37 (by decide)) (LY.k1262 L37) (by decide) rfl rfl) ?_
            by_cases qk38 : 0 ≤ (hi r35.2 1262 13) ∧ (hi r35.2 1262 13) < nI 4001
            rotate_left
            · rw [if_neg qk38] at hf; cases hf
            rw [if_pos qk38] at hf
            refine XS.go (s_ialde rfl (LY.lt L37 (by decide)) (LY.k1266 L37) (inLit (LY.n1266 L37) qk38.1 qk38.2 (by decide)) rfl) ?_
            refine XS.go (s_iconst (v := 3) rfl rfl) ?_
            refine r_icmp_eq (tgt := 85) rfl rfl (fun qc39 => ?_) (fun qc39 => ?_)
            · rw [if_pos qc39] at hf
              refine XS.go (s_aloadn rfl rfl rfl) ?_
              refine XS.go (s_getr rfl xf12_13 (LY.lt L37 (by decide)) (LY.k1262 L37) (by decide) rfl (LY.r1262_3 L37)) ?_
              refine XS.go (s_aloadn rfl rfl rfl) ?_
              refine XS.go (s_getr rfl xf12_22 (LY.lt L37 (by decide)) (LY.k1262 L37) (by decide) rfl (LY.r1262_9 L37)) ?_
              refine XS.go (s_aloadn rfl rfl rfl) ?_
              refine XS.go (s_getie rfl xf12_224 (LY.lt L37 (by decide)) (LY.k1262 L37) (by decide) rfl rfl) ?_
              refine XS.go (s_ialde rfl (LY.lt L37 (by decide)) (LY.k1267 L37) (inLit (LY.n1267 L37) qk38.1 qk38.2 (by decide)) rfl) ?_
              by_cases qk40 : 0 ≤ (hi r35.2 1267 (Int32.toNatClampNeg (hi r35.2 1262 13))) ∧ (hi r35.2 1267 (Int32.toNatClampNeg (hi r35.2 1262 13))) < nI 4000
              rotate_left
              · rw [if_neg qk40] at hf; cases hf
              rw [if_pos qk40] at hf
              refine XS.go (s_ialde rfl (LY.lt L37 (by decide)) (LY.k1264 L37) (inLit (LY.n1264 L37) qk40.1 qk40.2 (by decide)) rfl) ?_
              refine XS.go (s_bipush (v := 45) rfl rfl) ?_
              refine r_icmp_ne (tgt := 108) rfl rfl (fun qc41 => ?_) (fun qc41 => ?_)
              · rw [if_pos qc41] at hf
                refine XS.go (s_iconst (v := 0) rfl rfl) ?_
                exact XR.forget (L2 := [some (.ref 1262), some (.int a0), none, none, none, none]) ⟨rfl, ⟨rfl, trivial⟩⟩ (kb_m_defaults_109 L37 hf)
              · rw [if_neg qc41] at hf
                refine XS.go (s_iconst (v := 1) rfl rfl) ?_
                refine XS.go (s_goto (tgt := 109) rfl rfl) ?_
                exact XR.forget (L2 := [some (.ref 1262), some (.int a0), none, none, none, none]) ⟨rfl, ⟨rfl, trivial⟩⟩ (kb_m_defaults_109 L37 hf)
            · rw [if_neg qc39] at hf
              refine XS.go (s_aloadn rfl rfl rfl) ?_
              rcases e43 : f_m_misfit r35.2 with _ | r42
              · rw [e43] at hf; cases hf
              rw [e43] at hf; dsimp only at hf
              refine r_callv rfl xvX12_misfit xm12_237 (kf_m_misfit (d := d) L37 e43) (LY.lt L37 (by decide)) (LY.k1262 L37) (by decide) rfl rfl (by omega) (by decide) (Nat.le_of_ble_eq_true rfl) ?_
              rintro _ _ ⟨⟨rfl, rfl⟩, L44⟩
              cases hf
              exact XR.retv rfl rfl (fun hret => ⟨_, hret, ⟨rfl, rfl⟩, L44⟩)
          · rw [if_neg qc34] at hf
            exact XR.forget (L2 := [some (.ref 1262), none, none, none, none, none]) ⟨rfl, trivial⟩ (kb_m_defaults_56 L29 hf)
    · rw [if_neg qc30] at hf
      cases hf
      exact XR.retv rfl rfl (fun hret => ⟨_, hret, ⟨rfl, rfl⟩, L29⟩)
  · rw [if_neg qc25] at hf
    cases hf
    exact XR.retv rfl rfl (fun hret => ⟨_, hret, ⟨rfl, rfl⟩, L0⟩)
def f_m_needed (a0 : Int32) (h : XH) : Option (Unit × XH) := (if (hi h 1262 14) = 0 then (if 0 ≤ a0 ∧ a0 < nI 256 then (match f_m_isSign 40 (hsi h 1290 (Int32.toNatClampNeg a0) 0) with | none => none | some r3 => (if ¬ r3.1 = 0 then (if 0 ≤ a0 ∧ a0 < nI 256 then (if ¬ (hi r3.2 1286 (Int32.toNatClampNeg a0)) = 0 then (match f_m_take r3.2 with | none => none | some r9 => (match f_m_isWord 15 r9.2 with | none => none | some r12 => (if ¬ r12.1 = 0 then (if 0 ≤ a0 ∧ a0 < nI 256 then (match f_m_take (hsi r12.2 1290 (Int32.toNatClampNeg a0) 1) with | none => none | some r17 => (match f_m_sign 41 r17.2 with | none => none | some r20 => (some ((), r20.2)))) else none) else (match f_m_misfit r12.2 with | none => none | some r23 => (some ((), r23.2)))))) else (match f_m_flaw 7 r3.2 with | none => none | some r26 => (some ((), r26.2)))) else none) else (some ((), r3.2)))) else none) else (some ((), h)))
set_option maxRecDepth 20000 in
theorem kf_m_needed {l : Launch} {G : XG} {d : Nat} {a0 : Int32} {h : XH} {r : Unit × XH} (L0 : LY h) (hf : f_m_needed a0 h = some r) : XC l G xEX12_needed (d + 3) [.ref 1262, .int a0] h (fun v h2 => (h2 = r.2 ∧ v = none) ∧ LY r.2) := by
  refine XC.virt xvX12_needed (Nat.le_of_ble_eq_true rfl) ?_
  unfold f_m_needed at hf
  refine XS.go (s_aloadn rfl rfl rfl) ?_
  refine XS.go (s_getie rfl xf12_221 (LY.lt L0 (by decide)) (LY.k1262 L0) (by decide) rfl rfl) ?_
  refine r_if_eq (tgt := 8) rfl rfl (fun qc1 => ?_) (fun qc1 => ?_)
  · rw [if_pos qc1] at hf
    refine XS.go (s_aloadn rfl rfl rfl) ?_
    refine XS.go (s_getr rfl xf12_91 (LY.lt L0 (by decide)) (LY.k1262 L0) (by decide) rfl (LY.r1262_39 L0)) ?_
    refine XS.go (s_iloadn rfl rfl rfl) ?_
    refine XS.go (s_iconst (v := 0) rfl rfl) ?_
    by_cases qk2 : 0 ≤ a0 ∧ a0 < nI 256
    rotate_left
    · rw [if_neg qk2] at hf; cases hf
    rw [if_pos qk2] at hf
    refine XS.go (s_iast rfl (LY.lt L0 (by decide)) (LY.k1290 L0) (inLit (LY.n1290 L0) qk2.1 qk2.2 (by decide))) ?_
    refine XS.go (s_aloadn rfl rfl rfl) ?_
    refine XS.go (s_bipush (v := 40) rfl rfl) ?_
    rcases e4 : f_m_isSign 40 (hsi h 1290 (Int32.toNatClampNeg a0) 0) with _ | r3
    · rw [e4] at hf; cases hf
    rw [e4] at hf; dsimp only at hf
    refine r_callv rfl xvX12_isSign xm12_234 (kf_m_isSign (d := d) (by simp only [LY_si, LY_sj]; exact L0) e4) (LY.lt (by simp only [LY_si, LY_sj]; exact L0) (by decide)) (LY.k1262 (by simp only [LY_si, LY_sj]; exact L0)) (by decide) rfl rfl (by omega) (by decide) (Nat.le_of_ble_eq_true rfl) ?_
    rintro _ _ ⟨⟨rfl, rfl⟩, L5⟩
    refine r_if_ne (tgt := 25) rfl rfl (fun qc6 => ?_) (fun qc6 => ?_)
    · rw [if_pos qc6] at hf
      refine XS.go (s_aloadn rfl rfl rfl) ?_
      refine XS.go (s_getr rfl xf12_79 (LY.lt L5 (by decide)) (LY.k1262 L5) (by decide) rfl (LY.r1262_35 L5)) ?_
      refine XS.go (s_iloadn rfl rfl rfl) ?_
      by_cases qk7 : 0 ≤ a0 ∧ a0 < nI 256
      rotate_left
      · rw [if_neg qk7] at hf; cases hf
      rw [if_pos qk7] at hf
      refine XS.go (s_ialde rfl (LY.lt L5 (by decide)) (LY.k1286 L5) (inLit (LY.n1286 L5) qk7.1 qk7.2 (by decide)) rfl) ?_
      refine r_if_ne (tgt := 41) rfl rfl (fun qc8 => ?_) (fun qc8 => ?_)
      · rw [if_pos qc8] at hf
        refine XS.go (s_aloadn rfl rfl rfl) ?_
        rcases e10 : f_m_take r3.2 with _ | r9
        · rw [e10] at hf; cases hf
        rw [e10] at hf; dsimp only at hf
        refine r_callv rfl xvX12_take xm12_240 (kf_m_take (d := d) L5 e10) (LY.lt L5 (by decide)) (LY.k1262 L5) (by decide) rfl rfl (by omega) (by decide) (Nat.le_of_ble_eq_true rfl) ?_
        rintro _ _ ⟨⟨rfl, rfl⟩, L11⟩
        refine XS.go (s_aloadn rfl rfl rfl) ?_
        refine XS.go (s_bipush (v := 15) rfl rfl) ?_
        rcases e13 : f_m_isWord 15 r9.2 with _ | r12
        · rw [e13] at hf; cases hf
        rw [e13] at hf; dsimp only at hf
        refine r_callv rfl xvX12_isWord xm12_269 (kf_m_isWord (d := d) L11 e13) (LY.lt L11 (by decide)) (LY.k1262 L11) (by decide) rfl rfl (by omega) (by decide) (Nat.le_of_ble_eq_true rfl) ?_
        rintro _ _ ⟨⟨rfl, rfl⟩, L14⟩
        refine r_if_ne (tgt := 59) rfl rfl (fun qc15 => ?_) (fun qc15 => ?_)
        · rw [if_pos qc15] at hf
          refine XS.go (s_aloadn rfl rfl rfl) ?_
          refine XS.go (s_getr rfl xf12_91 (LY.lt L14 (by decide)) (LY.k1262 L14) (by decide) rfl (LY.r1262_39 L14)) ?_
          refine XS.go (s_iloadn rfl rfl rfl) ?_
          refine XS.go (s_iconst (v := 1) rfl rfl) ?_
          by_cases qk16 : 0 ≤ a0 ∧ a0 < nI 256
          rotate_left
          · rw [if_neg qk16] at hf; cases hf
          rw [if_pos qk16] at hf
          refine XS.go (s_iast rfl (LY.lt L14 (by decide)) (LY.k1290 L14) (inLit (LY.n1290 L14) qk16.1 qk16.2 (by decide))) ?_
          refine XS.go (s_aloadn rfl rfl rfl) ?_
          rcases e18 : f_m_take (hsi r12.2 1290 (Int32.toNatClampNeg a0) 1) with _ | r17
          · rw [e18] at hf; cases hf
          rw [e18] at hf; dsimp only at hf
          refine r_callv rfl xvX12_take xm12_240 (kf_m_take (d := d) (by simp only [LY_si, LY_sj]; exact L14) e18) (LY.lt (by simp only [LY_si, LY_sj]; exact L14) (by decide)) (LY.k1262 (by simp only [LY_si, LY_sj]; exact L14)) (by decide) rfl rfl (by omega) (by decide) (Nat.le_of_ble_eq_true rfl) ?_
          rintro _ _ ⟨⟨rfl, rfl⟩, L19⟩
          refine XS.go (s_aloadn rfl rfl rfl) ?_
          refine XS.go (s_bipush (v := 41) rfl rfl) ?_
          rcases e21 : f_m_sign 41 r17.2 with _ | r20
          · rw [e21] at hf; cases hf
          rw [e21] at hf; dsimp only at hf
          refine r_callv rfl xvX12_sign xm12_282 (kf_m_sign (d := d) L19 e21) (LY.lt L19 (by decide)) (LY.k1262 L19) (by decide) rfl rfl (by omega) (by decide) (Nat.le_of_ble_eq_true rfl) ?_
          rintro _ _ ⟨⟨rfl, rfl⟩, L22⟩
          cases hf
          exact XR.retv rfl rfl (fun hret => ⟨_, hret, ⟨rfl, rfl⟩, L22⟩)
        · rw [if_neg qc15] at hf
          refine XS.go (s_aloadn rfl rfl rfl) ?_
          rcases e24 : f_m_misfit r12.2 with _ | r23
          · rw [e24] at hf; cases hf
          rw [e24] at hf; dsimp only at hf
          refine r_callv rfl xvX12_misfit xm12_237 (kf_m_misfit (d := d) L14 e24) (LY.lt L14 (by decide)) (LY.k1262 L14) (by decide) rfl rfl (by omega) (by decide) (Nat.le_of_ble_eq_true rfl) ?_
          rintro _ _ ⟨⟨rfl, rfl⟩, L25⟩
          cases hf
          exact XR.retv rfl rfl (fun hret => ⟨_, hret, ⟨rfl, rfl⟩, L25⟩)
      · rw [if_neg qc8] at hf
        refine XS.go (s_aloadn rfl rfl rfl) ?_
        refine XS.go (s_bipush (v := 7) rfl rfl) ?_
        rcases e27 : f_m_flaw 7 r3.2 with _ | r26
        · rw [e27] at hf; cases hf
        rw [e27] at hf; dsimp only at hf
        refine r_callv rfl xvX12_flaw xm12_230 (kf_m_flaw (d := d) L5 e27) (LY.lt L5 (by decide)) (LY.k1262 L5) (by decide) rfl rfl (by omega) (by decide) (Nat.le_of_ble_eq_true rfl) ?_
        rintro _ _ ⟨⟨rfl, rfl⟩, L28⟩
        cases hf
        exact XR.retv rfl rfl (fun hret => ⟨_, hret, ⟨rfl, rfl⟩, L28⟩)
    · rw [if_neg qc6] at hf
      cases hf
      exact XR.retv rfl rfl (fun hret => ⟨_, hret, ⟨rfl, rfl⟩, L5⟩)
  · rw [if_neg qc1] at hf
    cases hf
    exact XR.retv rfl rfl (fun hret => ⟨_, hret, ⟨rfl, rfl⟩, L0⟩)
def b_m_tableType_148 (x2 : Int32) (h : XH) : Option (Unit × XH) := (match f_m_take h with | none => none | some r1 => (if x2 = 0 then (some ((), r1.2)) else (match f_m_sign 93 r1.2 with | none => none | some r5 => (some ((), r5.2)))))
set_option maxRecDepth 20000 in
theorem kb_m_tableType_148 {l : Launch} {G : XG} {d : Nat} {x2 : Int32} {h : XH} {r : Unit × XH} (L0 : LY h) (hf : b_m_tableType_148 x2 h = some r) : XR l G xEX12_tableType (d + 3) (148, [some (.ref 1262), none, some (.int x2), none], [], h) (fun C => ∃ v, xRet xEX12_tableType C v ∧ (C.2.2.2 = r.2 ∧ v = none) ∧ LY r.2) := by
  unfold b_m_tableType_148 at hf
  refine XS.go (s_aloadn rfl rfl rfl) ?_
  rcases e2 : f_m_take h with _ | r1
  · rw [e2] at hf; cases hf
  rw [e2] at hf; dsimp only at hf
  refine r_callv rfl xvX12_take xm12_240 (kf_m_take (d := d) L0 e2) (LY.lt L0 (by decide)) (LY.k1262 L0) (by decide) rfl rfl (by omega) (by decide) (Nat.le_of_ble_eq_true rfl) ?_
  rintro _ _ ⟨⟨rfl, rfl⟩, L3⟩
  refine XS.go (s_iloadn rfl rfl rfl) ?_
  refine r_if_eq (tgt := 162) rfl rfl (fun qc4 => ?_) (fun qc4 => ?_)
  · rw [if_pos qc4] at hf
    cases hf
    exact XR.retv rfl rfl (fun hret => ⟨_, hret, ⟨rfl, rfl⟩, L3⟩)
  · rw [if_neg qc4] at hf
    refine XS.go (s_aloadn rfl rfl rfl) ?_
    refine XS.go (s_bipush (v := 93) rfl rfl) ?_
    rcases e6 : f_m_sign 93 r1.2 with _ | r5
    · rw [e6] at hf; cases hf
    rw [e6] at hf; dsimp only at hf
    refine r_callv rfl xvX12_sign xm12_282 (kf_m_sign (d := d) L3 e6) (LY.lt L3 (by decide)) (LY.k1262 L3) (by decide) rfl rfl (by omega) (by decide) (Nat.le_of_ble_eq_true rfl) ?_
    rintro _ _ ⟨⟨rfl, rfl⟩, L7⟩
    cases hf
    exact XR.retv rfl rfl (fun hret => ⟨_, hret, ⟨rfl, rfl⟩, L7⟩)
def b_m_tableType_136 (x1 : Int32) (x2 : Int32) (x3 : Int32) (y1 : Int32) (y2 : Int32) (h : XH) : Option (Unit × XH) := (if 0 ≤ y1 ∧ y1 < nI 256 then (if x2 = 0 then (b_m_tableType_148 x2 (hsi h 1286 (Int32.toNatClampNeg y1) y2)) else (if 0 ≤ x1 ∧ x1 < nI 256 then (b_m_tableType_148 x2 (hsi (hsi h 1286 (Int32.toNatClampNeg y1) y2) 1288 (Int32.toNatClampNeg x1) x3)) else none)) else none)
set_option maxRecDepth 20000 in
theorem kb_m_tableType_136 {l : Launch} {G : XG} {d : Nat} {x1 : Int32} {x2 : Int32} {x3 : Int32} {y1 : Int32} {y2 : Int32} {h : XH} {r : Unit × XH} (L0 : LY h) (hf : b_m_tableType_136 x1 x2 x3 y1 y2 h = some r) : XR l G xEX12_tableType (d + 3) (136, [some (.ref 1262), some (.int x1), some (.int x2), some (.int x3)], [(.int y2), (.int y1), (.ref 1286)], h) (fun C => ∃ v, xRet xEX12_tableType C v ∧ (C.2.2.2 = r.2 ∧ v = none) ∧ LY r.2) := by
  unfold b_m_tableType_136 at hf
  by_cases qk8 : 0 ≤ y1 ∧ y1 < nI 256
  rotate_left
  · rw [if_neg qk8] at hf; cases hf
  rw [if_pos qk8] at hf
  refine XS.go (s_iast rfl (LY.lt L0 (by decide)) (LY.k1286 L0) (inLit (LY.n1286 L0) qk8.1 qk8.2 (by decide))) ?_
  refine XS.go (s_iloadn rfl rfl rfl) ?_
  refine r_if_eq (tgt := 148) rfl rfl (fun qc9 => ?_) (fun qc9 => ?_)
  · rw [if_pos qc9] at hf
    exact XR.forget (L2 := [some (.ref 1262), none, some (.int x2), none]) ⟨rfl, ⟨rfl, trivial⟩⟩ (kb_m_tableType_148 (by simp only [LY_si, LY_sj]; exact L0) hf)
  · rw [if_neg qc9] at hf
    refine XS.go (s_aloadn rfl rfl rfl) ?_
    refine XS.go (s_getr rfl xf12_85 (LY.lt (by simp only [LY_si, LY_sj]; exact L0) (by decide)) (LY.k1262 (by simp only [LY_si, LY_sj]; exact L0)) (by decide) rfl (LY.r1262_37 (by simp only [LY_si, LY_sj]; exact L0))) ?_
    refine XS.go (s_iloadn rfl rfl rfl) ?_
    refine XS.go (s_iloadn rfl rfl rfl) ?_
    by_cases qk10 : 0 ≤ x1 ∧ x1 < nI 256
    rotate_left
    · rw [if_neg qk10] at hf; cases hf
    rw [if_pos qk10] at hf
    refine XS.go (s_iast rfl (LY.lt (by simp only [LY_si, LY_sj]; exact L0) (by decide)) (LY.k1288 (by simp only [LY_si, LY_sj]; exact L0)) (inLit (LY.n1288 (by simp only [LY_si, LY_sj]; exact L0)) qk10.1 qk10.2 (by decide))) ?_
    exact XR.forget (L2 := [some (.ref 1262), none, some (.int x2), none]) ⟨rfl, ⟨rfl, trivial⟩⟩ (kb_m_tableType_148 (by simp only [LY_si, LY_sj]; exact L0) hf)
def b_m_tableType_122 (x1 : Int32) (x2 : Int32) (x3 : Int32) (h : XH) : Option (Unit × XH) := (if x2 = 0 then (b_m_tableType_136 x1 x2 x3 x1 x3 h) else (b_m_tableType_136 x1 x2 x3 x1 5 h))
set_option maxRecDepth 20000 in
theorem kb_m_tableType_122 {l : Launch} {G : XG} {d : Nat} {x1 : Int32} {x2 : Int32} {x3 : Int32} {h : XH} {r : Unit × XH} (L0 : LY h) (hf : b_m_tableType_122 x1 x2 x3 h = some r) : XR l G xEX12_tableType (d + 3) (122, [some (.ref 1262), some (.int x1), some (.int x2), some (.int x3)], [], h) (fun C => ∃ v, xRet xEX12_tableType C v ∧ (C.2.2.2 = r.2 ∧ v = none) ∧ LY r.2) := by
  unfold b_m_tableType_122 at hf
  refine XS.go (s_aloadn rfl rfl rfl) ?_
  refine XS.go (s_getr rfl xf12_79 (LY.lt L0 (by decide)) (LY.k1262 L0) (by decide) rfl (LY.r1262_35 L0)) ?_
  refine XS.go (s_iloadn rfl rfl rfl) ?_
  refine XS.go (s_iloadn rfl rfl rfl) ?_
  refine r_if_eq (tgt := 135) rfl rfl (fun qc11 => ?_) (fun qc11 => ?_)
  · rw [if_pos qc11] at hf
    refine XS.go (s_iloadn rfl rfl rfl) ?_
    exact XR.forget (L2 := [some (.ref 1262), some (.int x1), some (.int x2), some (.int x3)]) ⟨rfl, ⟨rfl, ⟨rfl, ⟨rfl, trivial⟩⟩⟩⟩ (kb_m_tableType_136 L0 hf)
  · rw [if_neg qc11] at hf
    refine XS.go (s_iconst (v := 5) rfl rfl) ?_
    refine XS.go (s_goto (tgt := 136) rfl rfl) ?_
    exact XR.forget (L2 := [some (.ref 1262), some (.int x1), some (.int x2), some (.int x3)]) ⟨rfl, ⟨rfl, ⟨rfl, ⟨rfl, trivial⟩⟩⟩⟩ (kb_m_tableType_136 L0 hf)
def b_m_tableType_118 (x1 : Int32) (x2 : Int32) (x3 : Int32) (y1 : Int32) (y2 : Int32) (h : XH) : Option (Unit × XH) := (match f_m_ask y1 y2 x1 h with | none => none | some r12 => (b_m_tableType_122 x1 x2 x3 r12.2))
set_option maxRecDepth 20000 in
theorem kb_m_tableType_118 {l : Launch} {G : XG} {d : Nat} {x1 : Int32} {x2 : Int32} {x3 : Int32} {y1 : Int32} {y2 : Int32} {h : XH} {r : Unit × XH} (L0 : LY h) (hf : b_m_tableType_118 x1 x2 x3 y1 y2 h = some r) : XR l G xEX12_tableType (d + 3) (118, [some (.ref 1262), some (.int x1), some (.int x2), some (.int x3)], [(.int y2), (.int y1), (.ref 1262)], h) (fun C => ∃ v, xRet xEX12_tableType C v ∧ (C.2.2.2 = r.2 ∧ v = none) ∧ LY r.2) := by
  unfold b_m_tableType_118 at hf
  refine XS.go (s_iloadn rfl rfl rfl) ?_
  rcases e13 : f_m_ask y1 y2 x1 h with _ | r12
  · rw [e13] at hf; cases hf
  rw [e13] at hf; dsimp only at hf
  refine r_callv rfl xvX12_ask xm12_278 (kf_m_ask (d := d) L0 e13) (LY.lt L0 (by decide)) (LY.k1262 L0) (by decide) rfl rfl (by omega) (by decide) (Nat.le_of_ble_eq_true rfl) ?_
  rintro _ _ ⟨⟨rfl, rfl⟩, L14⟩
  exact XR.forget (L2 := [some (.ref 1262), some (.int x1), some (.int x2), some (.int x3)]) ⟨rfl, ⟨rfl, ⟨rfl, ⟨rfl, trivial⟩⟩⟩⟩ (kb_m_tableType_122 L14 hf)
def b_m_tableType_99 (x1 : Int32) (x2 : Int32) (x3 : Int32) (h : XH) : Option (Unit × XH) := (if ¬ x3 = 3 then (b_m_tableType_122 x1 x2 x3 h) else (if x2 = 0 then (b_m_tableType_118 x1 x2 x3 (hi h 1262 13) 0 h) else (b_m_tableType_118 x1 x2 x3 (hi h 1262 13) 1 h)))
set_option maxRecDepth 20000 in
theorem kb_m_tableType_99 {l : Launch} {G : XG} {d : Nat} {x1 : Int32} {x2 : Int32} {x3 : Int32} {h : XH} {r : Unit × XH} (L0 : LY h) (hf : b_m_tableType_99 x1 x2 x3 h = some r) : XR l G xEX12_tableType (d + 3) (99, [some (.ref 1262), some (.int x1), some (.int x2), some (.int x3)], [], h) (fun C => ∃ v, xRet xEX12_tableType C v ∧ (C.2.2.2 = r.2 ∧ v = none) ∧ LY r.2) := by
  unfold b_m_tableType_99 at hf
  refine XS.go (s_iloadn rfl rfl rfl) ?_
  refine XS.go (s_iconst (v := 3) rfl rfl) ?_
  refine r_icmp_ne (tgt := 122) rfl rfl (fun qc15 => ?_) (fun qc15 => ?_)
  · rw [if_pos qc15] at hf
    exact XR.forget (L2 := [some (.ref 1262), some (.int x1), some (.int x2), some (.int x3)]) ⟨rfl, ⟨rfl, ⟨rfl, ⟨rfl, trivial⟩⟩⟩⟩ (kb_m_tableType_122 L0 hf)
  · rw [if_neg qc15] at hf
    refine XS.go (s_aloadn rfl rfl rfl) ?_
    refine XS.go (s_aloadn rfl rfl rfl) ?_
    refine XS.go (s_getie rfl xf12_224 (LY.lt L0 (by decide)) (LY.k1262 L0) (by decide) rfl rfl) ?_
    refine XS.go (s_iloadn rfl rfl rfl) ?_
    refine r_if_eq (tgt := 117) rfl rfl (fun qc16 => ?_) (fun qc16 => ?_)
    · rw [if_pos qc16] at hf
      refine XS.go (s_iconst (v := 0) rfl rfl) ?_
      exact XR.forget (L2 := [some (.ref 1262), some (.int x1), some (.int x2), some (.int x3)]) ⟨rfl, ⟨rfl, ⟨rfl, ⟨rfl, trivial⟩⟩⟩⟩ (kb_m_tableType_118 L0 hf)
    · rw [if_neg qc16] at hf
      refine XS.go (s_iconst (v := 1) rfl rfl) ?_
      refine XS.go (s_goto (tgt := 118) rfl rfl) ?_
      exact XR.forget (L2 := [some (.ref 1262), some (.int x1), some (.int x2), some (.int x3)]) ⟨rfl, ⟨rfl, ⟨rfl, ⟨rfl, trivial⟩⟩⟩⟩ (kb_m_tableType_118 L0 hf)
def b_m_tableType_80 (x1 : Int32) (x2 : Int32) (x3 : Int32) (h : XH) : Option (Unit × XH) := (if ¬ x3 = 0 then (b_m_tableType_99 x1 x2 x3 h) else (if 0 ≤ (hi h 1262 13) ∧ (hi h 1262 13) < nI 4001 then (if 0 ≤ x1 ∧ x1 < nI 256 then (b_m_tableType_99 x1 x2 x3 (hsi h 1287 (Int32.toNatClampNeg x1) (hi h 1269 (Int32.toNatClampNeg (hi h 1262 13))))) else none) else none))
set_option maxRecDepth 20000 in
theorem kb_m_tableType_80 {l : Launch} {G : XG} {d : Nat} {x1 : Int32} {x2 : Int32} {x3 : Int32} {h : XH} {r : Unit × XH} (L0 : LY h) (hf : b_m_tableType_80 x1 x2 x3 h = some r) : XR l G xEX12_tableType (d + 3) (80, [some (.ref 1262), some (.int x1), some (.int x2), some (.int x3)], [], h) (fun C => ∃ v, xRet xEX12_tableType C v ∧ (C.2.2.2 = r.2 ∧ v = none) ∧ LY r.2) := by
  unfold b_m_tableType_80 at hf
  refine XS.go (s_iloadn rfl rfl rfl) ?_
  refine r_if_ne (tgt := 99) rfl rfl (fun qc17 => ?_) (fun qc17 => ?_)
  · rw [if_pos qc17] at hf
    exact XR.forget (L2 := [some (.ref 1262), some (.int x1), some (.int x2), some (.int x3)]) ⟨rfl, ⟨rfl, ⟨rfl, ⟨rfl, trivial⟩⟩⟩⟩ (kb_m_tableType_99 L0 hf)
  · rw [if_neg qc17] at hf
    refine XS.go (s_aloadn rfl rfl rfl) ?_
    refine XS.go (s_getr rfl xf12_82 (LY.lt L0 (by decide)) (LY.k1262 L0) (by decide) rfl (LY.r1262_36 L0)) ?_
    refine XS.go (s_iloadn rfl rfl rfl) ?_
    refine XS.go (s_aloadn rfl rfl rfl) ?_
    refine XS.go (s_getr rfl xf12_28 (LY.lt L0 (by decide)) (LY.k1262 L0) (by decide) rfl (LY.r1262_11 L0)) ?_
    refine XS.go (s_aloadn rfl rfl rfl) ?_
    refine XS.go (s_getie rfl xf12_224 (LY.lt L0 (by decide)) (LY.k1262 L0) (by decide) rfl rfl) ?_
    by_cases qk18 : 0 ≤ (hi h 1262 13) ∧ (hi h 1262 13) < nI 4001
    rotate_left
    · rw [if_neg qk18] at hf; cases hf
    rw [if_pos qk18] at hf
    refine XS.go (s_ialde rfl (LY.lt L0 (by decide)) (LY.k1269 L0) (inLit (LY.n1269 L0) qk18.1 qk18.2 (by decide)) rfl) ?_
    by_cases qk19 : 0 ≤ x1 ∧ x1 < nI 256
    rotate_left
    · rw [if_neg qk19] at hf; cases hf
    rw [if_pos qk19] at hf
    refine XS.go (s_iast rfl (LY.lt L0 (by decide)) (LY.k1287 L0) (inLit (LY.n1287 L0) qk19.1 qk19.2 (by decide))) ?_
    exact XR.forget (L2 := [some (.ref 1262), some (.int x1), some (.int x2), some (.int x3)]) ⟨rfl, ⟨rfl, ⟨rfl, ⟨rfl, trivial⟩⟩⟩⟩ (kb_m_tableType_99 (by simp only [LY_si, LY_sj]; exact L0) hf)
def b_m_tableType_62 (x1 : Int32) (x2 : Int32) (y0 : Int32) (h : XH) : Option (Unit × XH) := (if ¬ y0 = 3 then (b_m_tableType_80 x1 x2 y0 h) else (match f_m_isName h with | none => none | some r21 => (if ¬ r21.1 = 0 then (b_m_tableType_80 x1 x2 y0 r21.2) else (match f_m_misfit r21.2 with | none => none | some r25 => (some ((), r25.2))))))
set_option maxRecDepth 20000 in
theorem kb_m_tableType_62 {l : Launch} {G : XG} {d : Nat} {x1 : Int32} {x2 : Int32} {y0 : Int32} {h : XH} {r : Unit × XH} (L0 : LY h) (hf : b_m_tableType_62 x1 x2 y0 h = some r) : XR l G xEX12_tableType (d + 3) (62, [some (.ref 1262), some (.int x1), some (.int x2), none], [(.int y0)], h) (fun C => ∃ v, xRet xEX12_tableType C v ∧ (C.2.2.2 = r.2 ∧ v = none) ∧ LY r.2) := by
  unfold b_m_tableType_62 at hf
  refine XS.go (s_istoren rfl rfl (Nat.le_of_ble_eq_true rfl)) ?_
  refine XS.go (s_iloadn rfl rfl rfl) ?_
  refine XS.go (s_iconst (v := 3) rfl rfl) ?_
  refine r_icmp_ne (tgt := 80) rfl rfl (fun qc20 => ?_) (fun qc20 => ?_)
  · rw [if_pos qc20] at hf
    exact XR.forget (L2 := [some (.ref 1262), some (.int x1), some (.int x2), some (.int y0)]) ⟨rfl, ⟨rfl, ⟨rfl, ⟨rfl, trivial⟩⟩⟩⟩ (kb_m_tableType_80 L0 hf)
  · rw [if_neg qc20] at hf
    refine XS.go (s_aloadn rfl rfl rfl) ?_
    rcases e22 : f_m_isName h with _ | r21
    · rw [e22] at hf; cases hf
    rw [e22] at hf; dsimp only at hf
    refine r_callv rfl xvX12_isName xm12_243 (kf_m_isName (d := d) L0 e22) (LY.lt L0 (by decide)) (LY.k1262 L0) (by decide) rfl rfl (by omega) (by decide) (Nat.le_of_ble_eq_true rfl) ?_
    rintro _ _ ⟨⟨rfl, rfl⟩, L23⟩
    refine r_if_ne (tgt := 80) rfl rfl (fun qc24 => ?_) (fun qc24 => ?_)
    · rw [if_pos qc24] at hf
      exact XR.forget (L2 := [some (.ref 1262), some (.int x1), some (.int x2), some (.int y0)]) ⟨rfl, ⟨rfl, ⟨rfl, ⟨rfl, trivial⟩⟩⟩⟩ (kb_m_tableType_80 L23 hf)
    · rw [if_neg qc24] at hf
      refine XS.go (s_aloadn rfl rfl rfl) ?_
      rcases e26 : f_m_misfit r21.2 with _ | r25
      · rw [e26] at hf; cases hf
      rw [e26] at hf; dsimp only at hf
      refine r_callv rfl xvX12_misfit xm12_237 (kf_m_misfit (d := d) L23 e26) (LY.lt L23 (by decide)) (LY.k1262 L23) (by decide) rfl rfl (by omega) (by decide) (Nat.le_of_ble_eq_true rfl) ?_
      rintro _ _ ⟨⟨rfl, rfl⟩, L27⟩
      cases hf
      exact XR.retv rfl rfl (fun hret => ⟨_, hret, ⟨rfl, rfl⟩, L27⟩)
def b_m_tableType_37 (x1 : Int32) (x2 : Int32) (h : XH) : Option (Unit × XH) := (match f_m_isScalar h with | none => none | some r28 => (if r28.1 = 0 then (match f_m_isWord 16 r28.2 with | none => none | some r32 => (if r32.1 = 0 then (b_m_tableType_62 x1 x2 3 r32.2) else (b_m_tableType_62 x1 x2 1 r32.2))) else (b_m_tableType_62 x1 x2 0 r28.2)))
set_option maxRecDepth 20000 in
theorem kb_m_tableType_37 {l : Launch} {G : XG} {d : Nat} {x1 : Int32} {x2 : Int32} {h : XH} {r : Unit × XH} (L0 : LY h) (hf : b_m_tableType_37 x1 x2 h = some r) : XR l G xEX12_tableType (d + 3) (37, [some (.ref 1262), some (.int x1), some (.int x2), none], [], h) (fun C => ∃ v, xRet xEX12_tableType C v ∧ (C.2.2.2 = r.2 ∧ v = none) ∧ LY r.2) := by
  unfold b_m_tableType_37 at hf
  refine XS.go (s_aloadn rfl rfl rfl) ?_
  rcases e29 : f_m_isScalar h with _ | r28
  · rw [e29] at hf; cases hf
  rw [e29] at hf; dsimp only at hf
  refine r_callv rfl xvX12_isScalar xm12_312 (kf_m_isScalar (d := d) L0 e29) (LY.lt L0 (by decide)) (LY.k1262 L0) (by decide) rfl rfl (by omega) (by decide) (Nat.le_of_ble_eq_true rfl) ?_
  rintro _ _ ⟨⟨rfl, rfl⟩, L30⟩
  refine r_if_eq (tgt := 48) rfl rfl (fun qc31 => ?_) (fun qc31 => ?_)
  · rw [if_pos qc31] at hf
    refine XS.go (s_aloadn rfl rfl rfl) ?_
    refine XS.go (s_bipush (v := 16) rfl rfl) ?_
    rcases e33 : f_m_isWord 16 r28.2 with _ | r32
    · rw [e33] at hf; cases hf
    rw [e33] at hf; dsimp only at hf
    refine r_callv rfl xvX12_isWord xm12_269 (kf_m_isWord (d := d) L30 e33) (LY.lt L30 (by decide)) (LY.k1262 L30) (by decide) rfl rfl (by omega) (by decide) (Nat.le_of_ble_eq_true rfl) ?_
    rintro _ _ ⟨⟨rfl, rfl⟩, L34⟩
    refine r_if_eq (tgt := 61) rfl rfl (fun qc35 => ?_) (fun qc35 => ?_)
    · rw [if_pos qc35] at hf
      refine XS.go (s_iconst (v := 3) rfl rfl) ?_
      exact XR.forget (L2 := [some (.ref 1262), some (.int x1), some (.int x2), none]) ⟨rfl, ⟨rfl, ⟨rfl, trivial⟩⟩⟩ (kb_m_tableType_62 L34 hf)
    · rw [if_neg qc35] at hf
      refine XS.go (s_iconst (v := 1) rfl rfl) ?_
      refine XS.go (s_goto (tgt := 62) rfl rfl) ?_
      exact XR.forget (L2 := [some (.ref 1262), some (.int x1), some (.int x2), none]) ⟨rfl, ⟨rfl, ⟨rfl, trivial⟩⟩⟩ (kb_m_tableType_62 L34 hf)
  · rw [if_neg qc31] at hf
    refine XS.go (s_iconst (v := 0) rfl rfl) ?_
    refine XS.go (s_goto (tgt := 62) rfl rfl) ?_
    exact XR.forget (L2 := [some (.ref 1262), some (.int x1), some (.int x2), none]) ⟨rfl, ⟨rfl, ⟨rfl, trivial⟩⟩⟩ (kb_m_tableType_62 L30 hf)
def f_m_tableType (a0 : Int32) (h : XH) : Option (Unit × XH) := (if (hi h 1262 14) = 0 then (if 0 ≤ a0 ∧ a0 < nI 256 then (match f_m_isSign 91 (hsi (hsi h 1288 (Int32.toNatClampNeg a0) (-1)) 1287 (Int32.toNatClampNeg a0) 0) with | none => none | some r38 => (if r38.1 = 0 then (b_m_tableType_37 a0 r38.1 r38.2) else (match f_m_take r38.2 with | none => none | some r42 => (b_m_tableType_37 a0 r38.1 r42.2)))) else none) else (some ((), h)))
set_option maxRecDepth 20000 in
theorem kf_m_tableType {l : Launch} {G : XG} {d : Nat} {a0 : Int32} {h : XH} {r : Unit × XH} (L0 : LY h) (hf : f_m_tableType a0 h = some r) : XC l G xEX12_tableType (d + 3) [.ref 1262, .int a0] h (fun v h2 => (h2 = r.2 ∧ v = none) ∧ LY r.2) := by
  refine XC.virt xvX12_tableType (Nat.le_of_ble_eq_true rfl) ?_
  unfold f_m_tableType at hf
  refine XS.go (s_aloadn rfl rfl rfl) ?_
  refine XS.go (s_getie rfl xf12_221 (LY.lt L0 (by decide)) (LY.k1262 L0) (by decide) rfl rfl) ?_
  refine r_if_eq (tgt := 8) rfl rfl (fun qc36 => ?_) (fun qc36 => ?_)
  · rw [if_pos qc36] at hf
    refine XS.go (s_aloadn rfl rfl rfl) ?_
    refine XS.go (s_getr rfl xf12_85 (LY.lt L0 (by decide)) (LY.k1262 L0) (by decide) rfl (LY.r1262_37 L0)) ?_
    refine XS.go (s_iloadn rfl rfl rfl) ?_
    refine XS.go (s_iconst (v := (-1)) rfl rfl) ?_
    by_cases qk37 : 0 ≤ a0 ∧ a0 < nI 256
    rotate_left
    · rw [if_neg qk37] at hf; cases hf
    rw [if_pos qk37] at hf
    refine XS.go (s_iast rfl (LY.lt L0 (by decide)) (LY.k1288 L0) (inLit (LY.n1288 L0) qk37.1 qk37.2 (by decide))) ?_
    refine XS.go (s_aloadn rfl rfl rfl) ?_
    refine XS.go (s_getr rfl xf12_82 (LY.lt (by simp only [LY_si, LY_sj]; exact L0) (by decide)) (LY.k1262 (by simp only [LY_si, LY_sj]; exact L0)) (by decide) rfl (LY.r1262_36 (by simp only [LY_si, LY_sj]; exact L0))) ?_
    refine XS.go (s_iloadn rfl rfl rfl) ?_
    refine XS.go (s_iconst (v := 0) rfl rfl) ?_
    refine XS.go (s_iast rfl (LY.lt (by simp only [LY_si, LY_sj]; exact L0) (by decide)) (LY.k1287 (by simp only [LY_si, LY_sj]; exact L0)) (inLit (LY.n1287 (by simp only [LY_si, LY_sj]; exact L0)) qk37.1 qk37.2 (by decide))) ?_
    refine XS.go (s_aloadn rfl rfl rfl) ?_
    refine XS.go (s_bipush (v := 91) rfl rfl) ?_
    rcases e39 : f_m_isSign 91 (hsi (hsi h 1288 (Int32.toNatClampNeg a0) (-1)) 1287 (Int32.toNatClampNeg a0) 0) with _ | r38
    · rw [e39] at hf; cases hf
    rw [e39] at hf; dsimp only at hf
    refine r_callv rfl xvX12_isSign xm12_234 (kf_m_isSign (d := d) (by simp only [LY_si, LY_sj]; exact L0) e39) (LY.lt (by simp only [LY_si, LY_sj]; exact L0) (by decide)) (LY.k1262 (by simp only [LY_si, LY_sj]; exact L0)) (by decide) rfl rfl (by omega) (by decide) (Nat.le_of_ble_eq_true rfl) ?_
    rintro _ _ ⟨⟨rfl, rfl⟩, L40⟩
    refine XS.go (s_istoren rfl rfl (Nat.le_of_ble_eq_true rfl)) ?_
    refine XS.go (s_iloadn rfl rfl rfl) ?_
    refine r_if_eq (tgt := 37) rfl rfl (fun qc41 => ?_) (fun qc41 => ?_)
    · rw [if_pos qc41] at hf
      exact XR.forget (L2 := [some (.ref 1262), some (.int a0), some (.int r38.1), none]) ⟨rfl, ⟨rfl, ⟨rfl, trivial⟩⟩⟩ (kb_m_tableType_37 L40 hf)
    · rw [if_neg qc41] at hf
      refine XS.go (s_aloadn rfl rfl rfl) ?_
      rcases e43 : f_m_take r38.2 with _ | r42
      · rw [e43] at hf; cases hf
      rw [e43] at hf; dsimp only at hf
      refine r_callv rfl xvX12_take xm12_240 (kf_m_take (d := d) L40 e43) (LY.lt L40 (by decide)) (LY.k1262 L40) (by decide) rfl rfl (by omega) (by decide) (Nat.le_of_ble_eq_true rfl) ?_
      rintro _ _ ⟨⟨rfl, rfl⟩, L44⟩
      exact XR.forget (L2 := [some (.ref 1262), some (.int a0), some (.int r38.1), none]) ⟨rfl, ⟨rfl, ⟨rfl, trivial⟩⟩⟩ (kb_m_tableType_37 L44 hf)
  · rw [if_neg qc36] at hf
    cases hf
    exact XR.retv rfl rfl (fun hret => ⟨_, hret, ⟨rfl, rfl⟩, L0⟩)
def b_m_tableBody_123 (h : XH) : Option (Unit × XH) := (match f_m_sign 125 h with | none => none | some r1 => (some ((), (hsi r1.2 1262 31 ((hi r1.2 1262 31) + 1)))))
set_option maxRecDepth 20000 in
theorem kb_m_tableBody_123 {l : Launch} {G : XG} {d : Nat} {h : XH} {r : Unit × XH} (L0 : LY h) (hf : b_m_tableBody_123 h = some r) : XR l G xEX12_tableBody (d + 4) (123, [some (.ref 1262), none, none, none], [], h) (fun C => ∃ v, xRet xEX12_tableBody C v ∧ (C.2.2.2 = r.2 ∧ v = none) ∧ LY r.2) := by
  unfold b_m_tableBody_123 at hf
  refine XS.go (s_aloadn rfl rfl rfl) ?_
  refine XS.go (s_bipush (v := 125) rfl rfl) ?_
  rcases e2 : f_m_sign 125 h with _ | r1
  · rw [e2] at hf; cases hf
  rw [e2] at hf; dsimp only at hf
  refine r_callv rfl xvX12_sign xm12_282 (kf_m_sign (d := d) L0 e2) (LY.lt L0 (by decide)) (LY.k1262 L0) (by decide) rfl rfl (by omega) (by decide) (Nat.le_of_ble_eq_true rfl) ?_
  rintro _ _ ⟨⟨rfl, rfl⟩, L3⟩
  refine XS.go (s_aloadn rfl rfl rfl) ?_
  refine XS.go (s_dup rfl rfl) ?_
  refine XS.go (s_getie rfl xf12_257 (LY.lt L3 (by decide)) (LY.k1262 L3) (by decide) rfl rfl) ?_
  refine XS.go (s_iconst (v := 1) rfl rfl) ?_
  refine XS.go (s_iadd rfl) ?_
  refine XS.go (s_puti rfl xf12_257 (LY.lt L3 (by decide)) (LY.k1262 L3) (by decide) rfl (Or.inl rfl)) ?_
  cases hf
  exact XR.retv rfl rfl (fun hret => ⟨_, hret, ⟨rfl, rfl⟩, (by simp only [LY_si, LY_sj]; exact L3)⟩)
def b_m_tableBody_120 (K12 : Int32 → XH → Option (Unit × XH)) (x1 : Int32) (h : XH) : Option (Unit × XH) := (K12 x1 h)
set_option maxRecDepth 20000 in
theorem kb_m_tableBody_120 {l : Launch} {G : XG} {d : Nat} {K12 : Int32 → XH → Option (Unit × XH)} {x1 : Int32} {h : XH} {r : Unit × XH} (hK12 : ∀ (x1 : Int32) (h : XH), LY h → K12 x1 h = some r → XR l G xEX12_tableBody (d + 4) (12, [some (.ref 1262), some (.int x1), none, none], [], h) (fun C => ∃ v, xRet xEX12_tableBody C v ∧ (C.2.2.2 = r.2 ∧ v = none) ∧ LY r.2)) (L0 : LY h) (hf : b_m_tableBody_120 K12 x1 h = some r) : XR l G xEX12_tableBody (d + 4) (120, [some (.ref 1262), some (.int x1), none, none], [], h) (fun C => ∃ v, xRet xEX12_tableBody C v ∧ (C.2.2.2 = r.2 ∧ v = none) ∧ LY r.2) := by
  unfold b_m_tableBody_120 at hf
  refine XS.go (s_goto (tgt := 12) rfl rfl) ?_
  exact XR.forget (L2 := [some (.ref 1262), some (.int x1), none, none]) ⟨rfl, ⟨rfl, trivial⟩⟩ (hK12 x1 _ L0 hf)
def s_m_tableBody_12 (K12 : Int32 → XH → Option (Unit × XH)) (x1 : Int32) (h : XH) : Option (Unit × XH) := (if ¬ (hi h 1262 14) = 0 then (b_m_tableBody_123 h) else (match f_m_isSign 125 h with | none => none | some r5 => (if ¬ r5.1 = 0 then (b_m_tableBody_123 r5.2) else (if 0 ≤ x1 ∧ x1 < nI 16 then (match f_m_fresh 1285 (16 * x1) (hi r5.2 1283 (Int32.toNatClampNeg x1)) 16 r5.2 with | none => none | some r10 => (match f_m_take r10.2 with | none => none | some r13 => (match f_m_sign 58 r13.2 with | none => none | some r16 => (match f_m_tableType ((16 * x1) + (hi r5.2 1283 (Int32.toNatClampNeg x1))) r16.2 with | none => none | some r19 => (match f_m_defaults ((16 * x1) + (hi r5.2 1283 (Int32.toNatClampNeg x1))) r19.2 with | none => none | some r22 => (match f_m_needed ((16 * x1) + (hi r5.2 1283 (Int32.toNatClampNeg x1))) r22.2 with | none => none | some r25 => (match f_m_sign 59 r25.2 with | none => none | some r28 => (if ¬ (hi r28.2 1262 14) = 0 then (b_m_tableBody_120 K12 x1 r28.2) else (if 0 ≤ ((16 * x1) + (hi r5.2 1283 (Int32.toNatClampNeg x1))) ∧ ((16 * x1) + (hi r5.2 1283 (Int32.toNatClampNeg x1))) < nI 256 then (if 0 ≤ x1 ∧ x1 < nI 16 then (b_m_tableBody_120 K12 x1 (hsi (hsi r28.2 1285 (Int32.toNatClampNeg ((16 * x1) + (hi r5.2 1283 (Int32.toNatClampNeg x1)))) (hi r10.2 1262 13)) 1283 (Int32.toNatClampNeg x1) ((hi r28.2 1283 (Int32.toNatClampNeg x1)) + 1))) else none) else none))))))))) else none))))
set_option maxRecDepth 20000 in
theorem ks_m_tableBody_12 {l : Launch} {G : XG} {d : Nat} {K12 : Int32 → XH → Option (Unit × XH)} {x1 : Int32} {h : XH} {r : Unit × XH} (hK12 : ∀ (x1 : Int32) (h : XH), LY h → K12 x1 h = some r → XR l G xEX12_tableBody (d + 4) (12, [some (.ref 1262), some (.int x1), none, none], [], h) (fun C => ∃ v, xRet xEX12_tableBody C v ∧ (C.2.2.2 = r.2 ∧ v = none) ∧ LY r.2)) (L0 : LY h) (hf : s_m_tableBody_12 K12 x1 h = some r) : XR l G xEX12_tableBody (d + 4) (12, [some (.ref 1262), some (.int x1), none, none], [], h) (fun C => ∃ v, xRet xEX12_tableBody C v ∧ (C.2.2.2 = r.2 ∧ v = none) ∧ LY r.2) := by
  unfold s_m_tableBody_12 at hf
  refine XS.go (s_aloadn rfl rfl rfl) ?_
  refine XS.go (s_getie rfl xf12_221 (LY.lt L0 (by decide)) (LY.k1262 L0) (by decide) rfl rfl) ?_
  refine r_if_ne (tgt := 123) rfl rfl (fun qc4 => ?_) (fun qc4 => ?_)
  · rw [if_pos qc4] at hf
    exact XR.forget (L2 := [some (.ref 1262), none, none, none]) ⟨rfl, trivial⟩ (kb_m_tableBody_123 L0 hf)
  · rw [if_neg qc4] at hf
    refine XS.go (s_aloadn rfl rfl rfl) ?_
    refine XS.go (s_bipush (v := 125) rfl rfl) ?_
    rcases e6 : f_m_isSign 125 h with _ | r5
    · rw [e6] at hf; cases hf
    rw [e6] at hf; dsimp only at hf
    refine r_callv rfl xvX12_isSign xm12_234 (kf_m_isSign (d := d) L0 e6) (LY.lt L0 (by decide)) (LY.k1262 L0) (by decide) rfl rfl (by omega) (by decide) (Nat.le_of_ble_eq_true rfl) ?_
    rintro _ _ ⟨⟨rfl, rfl⟩, L7⟩
    refine r_if_ne (tgt := 123) rfl rfl (fun qc8 => ?_) (fun qc8 => ?_)
    · rw [if_pos qc8] at hf
      exact XR.forget (L2 := [some (.ref 1262), none, none, none]) ⟨rfl, trivial⟩ (kb_m_tableBody_123 L7 hf)
    · rw [if_neg qc8] at hf
      refine XS.go (s_bipush (v := 16) rfl rfl) ?_
      refine XS.go (s_iloadn rfl rfl rfl) ?_
      refine XS.go (s_imul rfl) ?_
      refine XS.go (s_aloadn rfl rfl rfl) ?_
      refine XS.go (s_getr rfl xf12_70 (LY.lt L7 (by decide)) (LY.k1262 L7) (by decide) rfl (LY.r1262_32 L7)) ?_
      refine XS.go (s_iloadn rfl rfl rfl) ?_
      by_cases qk9 : 0 ≤ x1 ∧ x1 < nI 16
      rotate_left
      · rw [if_neg qk9] at hf; cases hf
      rw [if_pos qk9] at hf
      refine XS.go (s_ialde rfl (LY.lt L7 (by decide)) (LY.k1283 L7) (inLit (LY.n1283 L7) qk9.1 qk9.2 (by decide)) rfl) ?_
      refine XS.go (s_iadd rfl) ?_
      refine XS.go (s_istoren rfl rfl (Nat.le_of_ble_eq_true rfl)) ?_
      refine XS.go (s_aloadn rfl rfl rfl) ?_
      refine XS.go (s_aloadn rfl rfl rfl) ?_
      refine XS.go (s_getr rfl xf12_76 (LY.lt L7 (by decide)) (LY.k1262 L7) (by decide) rfl (LY.r1262_34 L7)) ?_
      refine XS.go (s_bipush (v := 16) rfl rfl) ?_
      refine XS.go (s_iloadn rfl rfl rfl) ?_
      refine XS.go (s_imul rfl) ?_
      refine XS.go (s_aloadn rfl rfl rfl) ?_
      refine XS.go (s_getr rfl xf12_70 (LY.lt L7 (by decide)) (LY.k1262 L7) (by decide) rfl (LY.r1262_32 L7)) ?_
      refine XS.go (s_iloadn rfl rfl rfl) ?_
      refine XS.go (s_ialde rfl (LY.lt L7 (by decide)) (LY.k1283 L7) (inLit (LY.n1283 L7) qk9.1 qk9.2 (by decide)) rfl) ?_
      refine XS.go (s_bipush (v := 16) rfl rfl) ?_
      rcases e11 : f_m_fresh 1285 (16 * x1) (hi r5.2 1283 (Int32.toNatClampNeg x1)) 16 r5.2 with _ | r10
      · rw [e11] at hf; cases hf
      rw [e11] at hf; dsimp only at hf
      refine r_callv rfl xvX12_fresh xm12_301 (kf_m_fresh (d := d) L7 e11) (LY.lt L7 (by decide)) (LY.k1262 L7) (by decide) rfl rfl (by omega) (by decide) (Nat.le_of_ble_eq_true rfl) ?_
      rintro _ _ ⟨⟨rfl, rfl⟩, L12⟩
      refine XS.go (s_aloadn rfl rfl rfl) ?_
      refine XS.go (s_getie rfl xf12_224 (LY.lt L12 (by decide)) (LY.k1262 L12) (by decide) rfl rfl) ?_
      refine XS.go (s_istoren rfl rfl (Nat.le_of_ble_eq_true rfl)) ?_
      refine XS.go (s_aloadn rfl rfl rfl) ?_
      rcases e14 : f_m_take r10.2 with _ | r13
      · rw [e14] at hf; cases hf
      rw [e14] at hf; dsimp only at hf
      refine r_callv rfl xvX12_take xm12_240 (kf_m_take (d := d) L12 e14) (LY.lt L12 (by decide)) (LY.k1262 L12) (by decide) rfl rfl (by omega) (by decide) (Nat.le_of_ble_eq_true rfl) ?_
      rintro _ _ ⟨⟨rfl, rfl⟩, L15⟩
      refine XS.go (s_aloadn rfl rfl rfl) ?_
      refine XS.go (s_bipush (v := 58) rfl rfl) ?_
      rcases e17 : f_m_sign 58 r13.2 with _ | r16
      · rw [e17] at hf; cases hf
      rw [e17] at hf; dsimp only at hf
      refine r_callv rfl xvX12_sign xm12_282 (kf_m_sign (d := d) L15 e17) (LY.lt L15 (by decide)) (LY.k1262 L15) (by decide) rfl rfl (by omega) (by decide) (Nat.le_of_ble_eq_true rfl) ?_
      rintro _ _ ⟨⟨rfl, rfl⟩, L18⟩
      refine XS.go (s_aloadn rfl rfl rfl) ?_
      refine XS.go (s_iloadn rfl rfl rfl) ?_
      rcases e20 : f_m_tableType ((16 * x1) + (hi r5.2 1283 (Int32.toNatClampNeg x1))) r16.2 with _ | r19
      · rw [e20] at hf; cases hf
      rw [e20] at hf; dsimp only at hf
      refine r_callv rfl xvX12_tableType xm12_321 (kf_m_tableType (d := d) L18 e20) (LY.lt L18 (by decide)) (LY.k1262 L18) (by decide) rfl rfl (by omega) (by decide) (Nat.le_of_ble_eq_true rfl) ?_
      rintro _ _ ⟨⟨rfl, rfl⟩, L21⟩
      refine XS.go (s_aloadn rfl rfl rfl) ?_
      refine XS.go (s_iloadn rfl rfl rfl) ?_
      rcases e23 : f_m_defaults ((16 * x1) + (hi r5.2 1283 (Int32.toNatClampNeg x1))) r19.2 with _ | r22
      · rw [e23] at hf; cases hf
      rw [e23] at hf; dsimp only at hf
      refine r_callv rfl xvX12_defaults xm12_324 (kf_m_defaults (d := d) L21 e23) (LY.lt L21 (by decide)) (LY.k1262 L21) (by decide) rfl rfl (by omega) (by decide) (Nat.le_of_ble_eq_true rfl) ?_
      rintro _ _ ⟨⟨rfl, rfl⟩, L24⟩
      refine XS.go (s_aloadn rfl rfl rfl) ?_
      refine XS.go (s_iloadn rfl rfl rfl) ?_
      rcases e26 : f_m_needed ((16 * x1) + (hi r5.2 1283 (Int32.toNatClampNeg x1))) r22.2 with _ | r25
      · rw [e26] at hf; cases hf
      rw [e26] at hf; dsimp only at hf
      refine r_callv rfl xvX12_needed xm12_327 (kf_m_needed (d := d) L24 e26) (LY.lt L24 (by decide)) (LY.k1262 L24) (by decide) rfl rfl (by omega) (by decide) (Nat.le_of_ble_eq_true rfl) ?_
      rintro _ _ ⟨⟨rfl, rfl⟩, L27⟩
      refine XS.go (s_aloadn rfl rfl rfl) ?_
      refine XS.go (s_bipush (v := 59) rfl rfl) ?_
      rcases e29 : f_m_sign 59 r25.2 with _ | r28
      · rw [e29] at hf; cases hf
      rw [e29] at hf; dsimp only at hf
      refine r_callv rfl xvX12_sign xm12_282 (kf_m_sign (d := d) L27 e29) (LY.lt L27 (by decide)) (LY.k1262 L27) (by decide) rfl rfl (by omega) (by decide) (Nat.le_of_ble_eq_true rfl) ?_
      rintro _ _ ⟨⟨rfl, rfl⟩, L30⟩
      refine XS.go (s_aloadn rfl rfl rfl) ?_
      refine XS.go (s_getie rfl xf12_221 (LY.lt L30 (by decide)) (LY.k1262 L30) (by decide) rfl rfl) ?_
      refine r_if_ne (tgt := 120) rfl rfl (fun qc31 => ?_) (fun qc31 => ?_)
      · rw [if_pos qc31] at hf
        exact XR.forget (L2 := [some (.ref 1262), some (.int x1), none, none]) ⟨rfl, ⟨rfl, trivial⟩⟩ (kb_m_tableBody_120 hK12 L30 hf)
      · rw [if_neg qc31] at hf
        refine XS.go (s_aloadn rfl rfl rfl) ?_
        refine XS.go (s_getr rfl xf12_76 (LY.lt L30 (by decide)) (LY.k1262 L30) (by decide) rfl (LY.r1262_34 L30)) ?_
        refine XS.go (s_iloadn rfl rfl rfl) ?_
        refine XS.go (s_iloadn rfl rfl rfl) ?_
        by_cases qk32 : 0 ≤ ((16 * x1) + (hi r5.2 1283 (Int32.toNatClampNeg x1))) ∧ ((16 * x1) + (hi r5.2 1283 (Int32.toNatClampNeg x1))) < nI 256
        rotate_left
        · rw [if_neg qk32] at hf; cases hf
        rw [if_pos qk32] at hf
        refine XS.go (s_iast rfl (LY.lt L30 (by decide)) (LY.k1285 L30) (inLit (LY.n1285 L30) qk32.1 qk32.2 (by decide))) ?_
        refine XS.go (s_aloadn rfl rfl rfl) ?_
        refine XS.go (s_getr rfl xf12_70 (LY.lt (by simp only [LY_si, LY_sj]; exact L30) (by decide)) (LY.k1262 (by simp only [LY_si, LY_sj]; exact L30)) (by decide) rfl (LY.r1262_32 (by simp only [LY_si, LY_sj]; exact L30))) ?_
        refine XS.go (s_iloadn rfl rfl rfl) ?_
        refine XS.go (s_dup2 rfl rfl rfl) ?_
        by_cases qk33 : 0 ≤ x1 ∧ x1 < nI 16
        rotate_left
        · rw [if_neg qk33] at hf; cases hf
        rw [if_pos qk33] at hf
        refine XS.go (s_ialde rfl (LY.lt (by simp only [LY_si, LY_sj]; exact L30) (by decide)) (LY.k1283 (by simp only [LY_si, LY_sj]; exact L30)) (inLit (LY.n1283 (by simp only [LY_si, LY_sj]; exact L30)) qk33.1 qk33.2 (by decide)) (hi_hsi_na (by decide))) ?_
        refine XS.go (s_iconst (v := 1) rfl rfl) ?_
        refine XS.go (s_iadd rfl) ?_
        refine XS.go (s_iast rfl (LY.lt (by simp only [LY_si, LY_sj]; exact L30) (by decide)) (LY.k1283 (by simp only [LY_si, LY_sj]; exact L30)) (inLit (LY.n1283 (by simp only [LY_si, LY_sj]; exact L30)) qk33.1 qk33.2 (by decide))) ?_
        exact XR.forget (L2 := [some (.ref 1262), some (.int x1), none, none]) ⟨rfl, ⟨rfl, trivial⟩⟩ (kb_m_tableBody_120 hK12 (by simp only [LY_si, LY_sj]; exact L30) hf)
def b_m_tableBody_12 : Nat → Int32 → XH → Option (Unit × XH)
  | 0, _, _ => none
  | n + 1, x1, h => s_m_tableBody_12 (b_m_tableBody_12 n) x1 h
theorem kb_m_tableBody_12 {l : Launch} {G : XG} {d : Nat} {n : Nat} {x1 : Int32} {h : XH} {r : Unit × XH} (L0 : LY h) (hf : b_m_tableBody_12 n x1 h = some r) : XR l G xEX12_tableBody (d + 4) (12, [some (.ref 1262), some (.int x1), none, none], [], h) (fun C => ∃ v, xRet xEX12_tableBody C v ∧ (C.2.2.2 = r.2 ∧ v = none) ∧ LY r.2) := by
  induction n generalizing x1 h with
  | zero => cases hf
  | succ n ih => exact ks_m_tableBody_12 (fun x1 h L0 hf => ih (h := h) (x1 := x1) L0 hf) L0 hf
def f_m_tableBody (h : XH) : Option (Unit × XH) := (if 0 ≤ (hi h 1262 31) ∧ (hi h 1262 31) < nI 16 then (b_m_tableBody_12 100000 (hi h 1262 31) (hsi h 1283 (Int32.toNatClampNeg (hi h 1262 31)) 0)) else none)
set_option maxRecDepth 20000 in
theorem kf_m_tableBody {l : Launch} {G : XG} {d : Nat} {h : XH} {r : Unit × XH} (L0 : LY h) (hf : f_m_tableBody h = some r) : XC l G xEX12_tableBody (d + 4) [.ref 1262] h (fun v h2 => (h2 = r.2 ∧ v = none) ∧ LY r.2) := by
  refine XC.virt xvX12_tableBody (Nat.le_of_ble_eq_true rfl) ?_
  unfold f_m_tableBody at hf
  refine XS.go (s_aloadn rfl rfl rfl) ?_
  refine XS.go (s_getie rfl xf12_257 (LY.lt L0 (by decide)) (LY.k1262 L0) (by decide) rfl rfl) ?_
  refine XS.go (s_istoren rfl rfl (Nat.le_of_ble_eq_true rfl)) ?_
  refine XS.go (s_aloadn rfl rfl rfl) ?_
  refine XS.go (s_getr rfl xf12_70 (LY.lt L0 (by decide)) (LY.k1262 L0) (by decide) rfl (LY.r1262_32 L0)) ?_
  refine XS.go (s_iloadn rfl rfl rfl) ?_
  refine XS.go (s_iconst (v := 0) rfl rfl) ?_
  by_cases qk34 : 0 ≤ (hi h 1262 31) ∧ (hi h 1262 31) < nI 16
  rotate_left
  · rw [if_neg qk34] at hf; cases hf
  rw [if_pos qk34] at hf
  refine XS.go (s_iast rfl (LY.lt L0 (by decide)) (LY.k1283 L0) (inLit (LY.n1283 L0) qk34.1 qk34.2 (by decide))) ?_
  exact XR.forget (L2 := [some (.ref 1262), some (.int (hi h 1262 31)), none, none]) ⟨rfl, ⟨rfl, trivial⟩⟩ (kb_m_tableBody_12 (by simp only [LY_si, LY_sj]; exact L0) hf)
def b_m_unionBody_116 (h : XH) : Option (Unit × XH) := (match f_m_sign 125 h with | none => none | some r1 => (some ((), (hsi r1.2 1262 41 ((hi r1.2 1262 41) + 1)))))
set_option maxRecDepth 20000 in
theorem kb_m_unionBody_116 {l : Launch} {G : XG} {d : Nat} {h : XH} {r : Unit × XH} (L0 : LY h) (hf : b_m_unionBody_116 h = some r) : XR l G xEX12_unionBody (d + 3) (116, [some (.ref 1262), none, none, none], [], h) (fun C => ∃ v, xRet xEX12_unionBody C v ∧ (C.2.2.2 = r.2 ∧ v = none) ∧ LY r.2) := by
  unfold b_m_unionBody_116 at hf
  refine XS.go (s_aloadn rfl rfl rfl) ?_
  refine XS.go (s_bipush (v := 125) rfl rfl) ?_
  rcases e2 : f_m_sign 125 h with _ | r1
  · rw [e2] at hf; cases hf
  rw [e2] at hf; dsimp only at hf
  refine r_callv rfl xvX12_sign xm12_282 (kf_m_sign (d := d) L0 e2) (LY.lt L0 (by decide)) (LY.k1262 L0) (by decide) rfl rfl (by omega) (by decide) (Nat.le_of_ble_eq_true rfl) ?_
  rintro _ _ ⟨⟨rfl, rfl⟩, L3⟩
  refine XS.go (s_aloadn rfl rfl rfl) ?_
  refine XS.go (s_dup rfl rfl) ?_
  refine XS.go (s_getie rfl xf12_260 (LY.lt L3 (by decide)) (LY.k1262 L3) (by decide) rfl rfl) ?_
  refine XS.go (s_iconst (v := 1) rfl rfl) ?_
  refine XS.go (s_iadd rfl) ?_
  refine XS.go (s_puti rfl xf12_260 (LY.lt L3 (by decide)) (LY.k1262 L3) (by decide) rfl (Or.inl rfl)) ?_
  cases hf
  exact XR.retv rfl rfl (fun hret => ⟨_, hret, ⟨rfl, rfl⟩, (by simp only [LY_si, LY_sj]; exact L3)⟩)
def b_m_unionBody_113 (K14 : Int32 → Int32 → XH → Option (Unit × XH)) (x1 : Int32) (x2 : Int32) (h : XH) : Option (Unit × XH) := (K14 x1 x2 h)
set_option maxRecDepth 20000 in
theorem kb_m_unionBody_113 {l : Launch} {G : XG} {d : Nat} {K14 : Int32 → Int32 → XH → Option (Unit × XH)} {x1 : Int32} {x2 : Int32} {h : XH} {r : Unit × XH} (hK14 : ∀ (x1 : Int32) (x2 : Int32) (h : XH), LY h → K14 x1 x2 h = some r → XR l G xEX12_unionBody (d + 3) (14, [some (.ref 1262), some (.int x1), some (.int x2), none], [], h) (fun C => ∃ v, xRet xEX12_unionBody C v ∧ (C.2.2.2 = r.2 ∧ v = none) ∧ LY r.2)) (L0 : LY h) (hf : b_m_unionBody_113 K14 x1 x2 h = some r) : XR l G xEX12_unionBody (d + 3) (113, [some (.ref 1262), some (.int x1), some (.int x2), none], [], h) (fun C => ∃ v, xRet xEX12_unionBody C v ∧ (C.2.2.2 = r.2 ∧ v = none) ∧ LY r.2) := by
  unfold b_m_unionBody_113 at hf
  refine XS.go (s_goto (tgt := 14) rfl rfl) ?_
  exact XR.forget (L2 := [some (.ref 1262), some (.int x1), some (.int x2), none]) ⟨rfl, ⟨rfl, ⟨rfl, trivial⟩⟩⟩ (hK14 x1 x2 _ L0 hf)
def b_m_unionBody_94 (K14 : Int32 → Int32 → XH → Option (Unit × XH)) (x1 : Int32) (h : XH) : Option (Unit × XH) := (match f_m_take h with | none => none | some r4 => (match f_m_isSign 44 r4.2 with | none => none | some r7 => (if r7.1 = 0 then (b_m_unionBody_113 K14 x1 r7.1 r7.2) else (match f_m_take r7.2 with | none => none | some r11 => (b_m_unionBody_113 K14 x1 r7.1 r11.2)))))
set_option maxRecDepth 20000 in
theorem kb_m_unionBody_94 {l : Launch} {G : XG} {d : Nat} {K14 : Int32 → Int32 → XH → Option (Unit × XH)} {x1 : Int32} {h : XH} {r : Unit × XH} (hK14 : ∀ (x1 : Int32) (x2 : Int32) (h : XH), LY h → K14 x1 x2 h = some r → XR l G xEX12_unionBody (d + 3) (14, [some (.ref 1262), some (.int x1), some (.int x2), none], [], h) (fun C => ∃ v, xRet xEX12_unionBody C v ∧ (C.2.2.2 = r.2 ∧ v = none) ∧ LY r.2)) (L0 : LY h) (hf : b_m_unionBody_94 K14 x1 h = some r) : XR l G xEX12_unionBody (d + 3) (94, [some (.ref 1262), some (.int x1), none, none], [], h) (fun C => ∃ v, xRet xEX12_unionBody C v ∧ (C.2.2.2 = r.2 ∧ v = none) ∧ LY r.2) := by
  unfold b_m_unionBody_94 at hf
  refine XS.go (s_aloadn rfl rfl rfl) ?_
  rcases e5 : f_m_take h with _ | r4
  · rw [e5] at hf; cases hf
  rw [e5] at hf; dsimp only at hf
  refine r_callv rfl xvX12_take xm12_240 (kf_m_take (d := d) L0 e5) (LY.lt L0 (by decide)) (LY.k1262 L0) (by decide) rfl rfl (by omega) (by decide) (Nat.le_of_ble_eq_true rfl) ?_
  rintro _ _ ⟨⟨rfl, rfl⟩, L6⟩
  refine XS.go (s_aloadn rfl rfl rfl) ?_
  refine XS.go (s_bipush (v := 44) rfl rfl) ?_
  rcases e8 : f_m_isSign 44 r4.2 with _ | r7
  · rw [e8] at hf; cases hf
  rw [e8] at hf; dsimp only at hf
  refine r_callv rfl xvX12_isSign xm12_234 (kf_m_isSign (d := d) L6 e8) (LY.lt L6 (by decide)) (LY.k1262 L6) (by decide) rfl rfl (by omega) (by decide) (Nat.le_of_ble_eq_true rfl) ?_
  rintro _ _ ⟨⟨rfl, rfl⟩, L9⟩
  refine XS.go (s_istoren rfl rfl (Nat.le_of_ble_eq_true rfl)) ?_
  refine XS.go (s_iloadn rfl rfl rfl) ?_
  refine r_if_eq (tgt := 113) rfl rfl (fun qc10 => ?_) (fun qc10 => ?_)
  · rw [if_pos qc10] at hf
    exact XR.forget (L2 := [some (.ref 1262), some (.int x1), some (.int r7.1), none]) ⟨rfl, ⟨rfl, ⟨rfl, trivial⟩⟩⟩ (kb_m_unionBody_113 hK14 L9 hf)
  · rw [if_neg qc10] at hf
    refine XS.go (s_aloadn rfl rfl rfl) ?_
    rcases e12 : f_m_take r7.2 with _ | r11
    · rw [e12] at hf; cases hf
    rw [e12] at hf; dsimp only at hf
    refine r_callv rfl xvX12_take xm12_240 (kf_m_take (d := d) L9 e12) (LY.lt L9 (by decide)) (LY.k1262 L9) (by decide) rfl rfl (by omega) (by decide) (Nat.le_of_ble_eq_true rfl) ?_
    rintro _ _ ⟨⟨rfl, rfl⟩, L13⟩
    exact XR.forget (L2 := [some (.ref 1262), some (.int x1), some (.int r7.1), none]) ⟨rfl, ⟨rfl, ⟨rfl, trivial⟩⟩⟩ (kb_m_unionBody_113 hK14 L13 hf)
def s_m_unionBody_14 (K14 : Int32 → Int32 → XH → Option (Unit × XH)) (x1 : Int32) (x2 : Int32) (h : XH) : Option (Unit × XH) := (if x2 = 0 then (b_m_unionBody_116 h) else (if ¬ (hi h 1262 14) = 0 then (b_m_unionBody_116 h) else (if 0 ≤ x1 ∧ x1 < nI 8 then (match f_m_fresh 1293 (8 * x1) (hi h 1292 (Int32.toNatClampNeg x1)) 8 h with | none => none | some r17 => (if ¬ (hi r17.2 1262 14) = 0 then (b_m_unionBody_94 K14 x1 r17.2) else (if 0 ≤ ((8 * x1) + (hi h 1292 (Int32.toNatClampNeg x1))) ∧ ((8 * x1) + (hi h 1292 (Int32.toNatClampNeg x1))) < nI 64 then (match f_m_ask (hi r17.2 1262 13) 2 ((8 * x1) + (hi h 1292 (Int32.toNatClampNeg x1))) (hsi r17.2 1293 (Int32.toNatClampNeg ((8 * x1) + (hi h 1292 (Int32.toNatClampNeg x1)))) (hi r17.2 1262 13)) with | none => none | some r22 => (if 0 ≤ x1 ∧ x1 < nI 8 then (b_m_unionBody_94 K14 x1 (hsi r22.2 1292 (Int32.toNatClampNeg x1) ((hi r22.2 1292 (Int32.toNatClampNeg x1)) + 1))) else none)) else none))) else none)))
set_option maxRecDepth 20000 in
theorem ks_m_unionBody_14 {l : Launch} {G : XG} {d : Nat} {K14 : Int32 → Int32 → XH → Option (Unit × XH)} {x1 : Int32} {x2 : Int32} {h : XH} {r : Unit × XH} (hK14 : ∀ (x1 : Int32) (x2 : Int32) (h : XH), LY h → K14 x1 x2 h = some r → XR l G xEX12_unionBody (d + 3) (14, [some (.ref 1262), some (.int x1), some (.int x2), none], [], h) (fun C => ∃ v, xRet xEX12_unionBody C v ∧ (C.2.2.2 = r.2 ∧ v = none) ∧ LY r.2)) (L0 : LY h) (hf : s_m_unionBody_14 K14 x1 x2 h = some r) : XR l G xEX12_unionBody (d + 3) (14, [some (.ref 1262), some (.int x1), some (.int x2), none], [], h) (fun C => ∃ v, xRet xEX12_unionBody C v ∧ (C.2.2.2 = r.2 ∧ v = none) ∧ LY r.2) := by
  unfold s_m_unionBody_14 at hf
  refine XS.go (s_iloadn rfl rfl rfl) ?_
  refine r_if_eq (tgt := 116) rfl rfl (fun qc14 => ?_) (fun qc14 => ?_)
  · rw [if_pos qc14] at hf
    exact XR.forget (L2 := [some (.ref 1262), none, none, none]) ⟨rfl, trivial⟩ (kb_m_unionBody_116 L0 hf)
  · rw [if_neg qc14] at hf
    refine XS.go (s_aloadn rfl rfl rfl) ?_
    refine XS.go (s_getie rfl xf12_221 (LY.lt L0 (by decide)) (LY.k1262 L0) (by decide) rfl rfl) ?_
    refine r_if_ne (tgt := 116) rfl rfl (fun qc15 => ?_) (fun qc15 => ?_)
    · rw [if_pos qc15] at hf
      exact XR.forget (L2 := [some (.ref 1262), none, none, none]) ⟨rfl, trivial⟩ (kb_m_unionBody_116 L0 hf)
    · rw [if_neg qc15] at hf
      refine XS.go (s_bipush (v := 8) rfl rfl) ?_
      refine XS.go (s_iloadn rfl rfl rfl) ?_
      refine XS.go (s_imul rfl) ?_
      refine XS.go (s_aloadn rfl rfl rfl) ?_
      refine XS.go (s_getr rfl xf12_98 (LY.lt L0 (by decide)) (LY.k1262 L0) (by decide) rfl (LY.r1262_42 L0)) ?_
      refine XS.go (s_iloadn rfl rfl rfl) ?_
      by_cases qk16 : 0 ≤ x1 ∧ x1 < nI 8
      rotate_left
      · rw [if_neg qk16] at hf; cases hf
      rw [if_pos qk16] at hf
      refine XS.go (s_ialde rfl (LY.lt L0 (by decide)) (LY.k1292 L0) (inLit (LY.n1292 L0) qk16.1 qk16.2 (by decide)) rfl) ?_
      refine XS.go (s_iadd rfl) ?_
      refine XS.go (s_istoren rfl rfl (Nat.le_of_ble_eq_true rfl)) ?_
      refine XS.go (s_aloadn rfl rfl rfl) ?_
      refine XS.go (s_aloadn rfl rfl rfl) ?_
      refine XS.go (s_getr rfl xf12_101 (LY.lt L0 (by decide)) (LY.k1262 L0) (by decide) rfl (LY.r1262_43 L0)) ?_
      refine XS.go (s_bipush (v := 8) rfl rfl) ?_
      refine XS.go (s_iloadn rfl rfl rfl) ?_
      refine XS.go (s_imul rfl) ?_
      refine XS.go (s_aloadn rfl rfl rfl) ?_
      refine XS.go (s_getr rfl xf12_98 (LY.lt L0 (by decide)) (LY.k1262 L0) (by decide) rfl (LY.r1262_42 L0)) ?_
      refine XS.go (s_iloadn rfl rfl rfl) ?_
      refine XS.go (s_ialde rfl (LY.lt L0 (by decide)) (LY.k1292 L0) (inLit (LY.n1292 L0) qk16.1 qk16.2 (by decide)) rfl) ?_
      refine XS.go (s_bipush (v := 8) rfl rfl) ?_
      rcases e18 : f_m_fresh 1293 (8 * x1) (hi h 1292 (Int32.toNatClampNeg x1)) 8 h with _ | r17
      · rw [e18] at hf; cases hf
      rw [e18] at hf; dsimp only at hf
      refine r_callv rfl xvX12_fresh xm12_301 (kf_m_fresh (d := d) L0 e18) (LY.lt L0 (by decide)) (LY.k1262 L0) (by decide) rfl rfl (by omega) (by decide) (Nat.le_of_ble_eq_true rfl) ?_
      rintro _ _ ⟨⟨rfl, rfl⟩, L19⟩
      refine XS.go (s_aloadn rfl rfl rfl) ?_
      refine XS.go (s_getie rfl xf12_221 (LY.lt L19 (by decide)) (LY.k1262 L19) (by decide) rfl rfl) ?_
      refine r_if_ne (tgt := 94) rfl rfl (fun qc20 => ?_) (fun qc20 => ?_)
      · rw [if_pos qc20] at hf
        exact XR.forget (L2 := [some (.ref 1262), some (.int x1), none, none]) ⟨rfl, ⟨rfl, trivial⟩⟩ (kb_m_unionBody_94 hK14 L19 hf)
      · rw [if_neg qc20] at hf
        refine XS.go (s_aloadn rfl rfl rfl) ?_
        refine XS.go (s_getr rfl xf12_101 (LY.lt L19 (by decide)) (LY.k1262 L19) (by decide) rfl (LY.r1262_43 L19)) ?_
        refine XS.go (s_iloadn rfl rfl rfl) ?_
        refine XS.go (s_aloadn rfl rfl rfl) ?_
        refine XS.go (s_getie rfl xf12_224 (LY.lt L19 (by decide)) (LY.k1262 L19) (by decide) rfl rfl) ?_
        by_cases qk21 : 0 ≤ ((8 * x1) + (hi h 1292 (Int32.toNatClampNeg x1))) ∧ ((8 * x1) + (hi h 1292 (Int32.toNatClampNeg x1))) < nI 64
        rotate_left
        · rw [if_neg qk21] at hf; cases hf
        rw [if_pos qk21] at hf
        refine XS.go (s_iast rfl (LY.lt L19 (by decide)) (LY.k1293 L19) (inLit (LY.n1293 L19) qk21.1 qk21.2 (by decide))) ?_
        refine XS.go (s_aloadn rfl rfl rfl) ?_
        refine XS.go (s_aloadn rfl rfl rfl) ?_
        refine XS.go (s_getie rfl xf12_224 (LY.lt (by simp only [LY_si, LY_sj]; exact L19) (by decide)) (LY.k1262 (by simp only [LY_si, LY_sj]; exact L19)) (by decide) rfl (hi_hsi_na (by decide))) ?_
        refine XS.go (s_iconst (v := 2) rfl rfl) ?_
        refine XS.go (s_iloadn rfl rfl rfl) ?_
        rcases e23 : f_m_ask (hi r17.2 1262 13) 2 ((8 * x1) + (hi h 1292 (Int32.toNatClampNeg x1))) (hsi r17.2 1293 (Int32.toNatClampNeg ((8 * x1) + (hi h 1292 (Int32.toNatClampNeg x1)))) (hi r17.2 1262 13)) with _ | r22
        · rw [e23] at hf; cases hf
        rw [e23] at hf; dsimp only at hf
        refine r_callv rfl xvX12_ask xm12_278 (kf_m_ask (d := d) (by simp only [LY_si, LY_sj]; exact L19) e23) (LY.lt (by simp only [LY_si, LY_sj]; exact L19) (by decide)) (LY.k1262 (by simp only [LY_si, LY_sj]; exact L19)) (by decide) rfl rfl (by omega) (by decide) (Nat.le_of_ble_eq_true rfl) ?_
        rintro _ _ ⟨⟨rfl, rfl⟩, L24⟩
        refine XS.go (s_aloadn rfl rfl rfl) ?_
        refine XS.go (s_getr rfl xf12_98 (LY.lt L24 (by decide)) (LY.k1262 L24) (by decide) rfl (LY.r1262_42 L24)) ?_
        refine XS.go (s_iloadn rfl rfl rfl) ?_
        refine XS.go (s_dup2 rfl rfl rfl) ?_
        by_cases qk25 : 0 ≤ x1 ∧ x1 < nI 8
        rotate_left
        · rw [if_neg qk25] at hf; cases hf
        rw [if_pos qk25] at hf
        refine XS.go (s_ialde rfl (LY.lt L24 (by decide)) (LY.k1292 L24) (inLit (LY.n1292 L24) qk25.1 qk25.2 (by decide)) rfl) ?_
        refine XS.go (s_iconst (v := 1) rfl rfl) ?_
        refine XS.go (s_iadd rfl) ?_
        refine XS.go (s_iast rfl (LY.lt L24 (by decide)) (LY.k1292 L24) (inLit (LY.n1292 L24) qk25.1 qk25.2 (by decide))) ?_
        exact XR.forget (L2 := [some (.ref 1262), some (.int x1), none, none]) ⟨rfl, ⟨rfl, trivial⟩⟩ (kb_m_unionBody_94 hK14 (by simp only [LY_si, LY_sj]; exact L24) hf)
def b_m_unionBody_14 : Nat → Int32 → Int32 → XH → Option (Unit × XH)
  | 0, _, _, _ => none
  | n + 1, x1, x2, h => s_m_unionBody_14 (b_m_unionBody_14 n) x1 x2 h
theorem kb_m_unionBody_14 {l : Launch} {G : XG} {d : Nat} {n : Nat} {x1 : Int32} {x2 : Int32} {h : XH} {r : Unit × XH} (L0 : LY h) (hf : b_m_unionBody_14 n x1 x2 h = some r) : XR l G xEX12_unionBody (d + 3) (14, [some (.ref 1262), some (.int x1), some (.int x2), none], [], h) (fun C => ∃ v, xRet xEX12_unionBody C v ∧ (C.2.2.2 = r.2 ∧ v = none) ∧ LY r.2) := by
  induction n generalizing x1 x2 h with
  | zero => cases hf
  | succ n ih => exact ks_m_unionBody_14 (fun x1 x2 h L0 hf => ih (h := h) (x1 := x1) (x2 := x2) L0 hf) L0 hf
def f_m_unionBody (h : XH) : Option (Unit × XH) := (if 0 ≤ (hi h 1262 41) ∧ (hi h 1262 41) < nI 8 then (b_m_unionBody_14 100000 (hi h 1262 41) 1 (hsi h 1292 (Int32.toNatClampNeg (hi h 1262 41)) 0)) else none)
set_option maxRecDepth 20000 in
theorem kf_m_unionBody {l : Launch} {G : XG} {d : Nat} {h : XH} {r : Unit × XH} (L0 : LY h) (hf : f_m_unionBody h = some r) : XC l G xEX12_unionBody (d + 3) [.ref 1262] h (fun v h2 => (h2 = r.2 ∧ v = none) ∧ LY r.2) := by
  refine XC.virt xvX12_unionBody (Nat.le_of_ble_eq_true rfl) ?_
  unfold f_m_unionBody at hf
  refine XS.go (s_aloadn rfl rfl rfl) ?_
  refine XS.go (s_getie rfl xf12_260 (LY.lt L0 (by decide)) (LY.k1262 L0) (by decide) rfl rfl) ?_
  refine XS.go (s_istoren rfl rfl (Nat.le_of_ble_eq_true rfl)) ?_
  refine XS.go (s_aloadn rfl rfl rfl) ?_
  refine XS.go (s_getr rfl xf12_98 (LY.lt L0 (by decide)) (LY.k1262 L0) (by decide) rfl (LY.r1262_42 L0)) ?_
  refine XS.go (s_iloadn rfl rfl rfl) ?_
  refine XS.go (s_iconst (v := 0) rfl rfl) ?_
  by_cases qk26 : 0 ≤ (hi h 1262 41) ∧ (hi h 1262 41) < nI 8
  rotate_left
  · rw [if_neg qk26] at hf; cases hf
  rw [if_pos qk26] at hf
  refine XS.go (s_iast rfl (LY.lt L0 (by decide)) (LY.k1292 L0) (inLit (LY.n1292 L0) qk26.1 qk26.2 (by decide))) ?_
  refine XS.go (s_iconst (v := 1) rfl rfl) ?_
  refine XS.go (s_istoren rfl rfl (Nat.le_of_ble_eq_true rfl)) ?_
  exact XR.forget (L2 := [some (.ref 1262), some (.int (hi h 1262 41)), some (.int 1), none]) ⟨rfl, ⟨rfl, ⟨rfl, trivial⟩⟩⟩ (kb_m_unionBody_14 (by simp only [LY_si, LY_sj]; exact L0) hf)
def b_m_define_166 (x1 : Int32) (y1 : Int32) (y2 : Int32) (h : XH) : Option (Unit × XH) := (if 0 ≤ y1 ∧ y1 < nI 40 then (match f_m_take (hsi (hsi h 1272 (Int32.toNatClampNeg y1) y2) 1262 16 ((hi h 1262 16) + 1)) with | none => none | some r2 => (match f_m_sign 123 r2.2 with | none => none | some r5 => (if ¬ x1 = 11 then (if ¬ x1 = 12 then (match f_m_unionBody r5.2 with | none => none | some r10 => (some ((), r10.2))) else (match f_m_tableBody r5.2 with | none => none | some r13 => (some ((), r13.2)))) else (match f_m_structBody r5.2 with | none => none | some r16 => (some ((), r16.2)))))) else none)
set_option maxRecDepth 20000 in
theorem kb_m_define_166 {l : Launch} {G : XG} {d : Nat} {x1 : Int32} {y1 : Int32} {y2 : Int32} {h : XH} {r : Unit × XH} (L0 : LY h) (hf : b_m_define_166 x1 y1 y2 h = some r) : XR l G xEX12_define (d + 5) (166, [some (.ref 1262), some (.int x1)], [(.int y2), (.int y1), (.ref 1272)], h) (fun C => ∃ v, xRet xEX12_define C v ∧ (C.2.2.2 = r.2 ∧ v = none) ∧ LY r.2) := by
  unfold b_m_define_166 at hf
  by_cases qk1 : 0 ≤ y1 ∧ y1 < nI 40
  rotate_left
  · rw [if_neg qk1] at hf; cases hf
  rw [if_pos qk1] at hf
  refine XS.go (s_iast rfl (LY.lt L0 (by decide)) (LY.k1272 L0) (inLit (LY.n1272 L0) qk1.1 qk1.2 (by decide))) ?_
  refine XS.go (s_aloadn rfl rfl rfl) ?_
  refine XS.go (s_dup rfl rfl) ?_
  refine XS.go (s_getie rfl xf12_247 (LY.lt (by simp only [LY_si, LY_sj]; exact L0) (by decide)) (LY.k1262 (by simp only [LY_si, LY_sj]; exact L0)) (by decide) rfl (hi_hsi_na (by decide))) ?_
  refine XS.go (s_iconst (v := 1) rfl rfl) ?_
  refine XS.go (s_iadd rfl) ?_
  refine XS.go (s_puti rfl xf12_247 (LY.lt (by simp only [LY_si, LY_sj]; exact L0) (by decide)) (LY.k1262 (by simp only [LY_si, LY_sj]; exact L0)) (by decide) rfl (Or.inl rfl)) ?_
  refine XS.go (s_aloadn rfl rfl rfl) ?_
  rcases e3 : f_m_take (hsi (hsi h 1272 (Int32.toNatClampNeg y1) y2) 1262 16 ((hi h 1262 16) + 1)) with _ | r2
  · rw [e3] at hf; cases hf
  rw [e3] at hf; dsimp only at hf
  refine r_callv rfl xvX12_take xm12_240 (kf_m_take (d := d) (by simp only [LY_si, LY_sj]; exact L0) e3) (LY.lt (by simp only [LY_si, LY_sj]; exact L0) (by decide)) (LY.k1262 (by simp only [LY_si, LY_sj]; exact L0)) (by decide) rfl rfl (by omega) (by decide) (Nat.le_of_ble_eq_true rfl) ?_
  rintro _ _ ⟨⟨rfl, rfl⟩, L4⟩
  refine XS.go (s_aloadn rfl rfl rfl) ?_
  refine XS.go (s_bipush (v := 123) rfl rfl) ?_
  rcases e6 : f_m_sign 123 r2.2 with _ | r5
  · rw [e6] at hf; cases hf
  rw [e6] at hf; dsimp only at hf
  refine r_callv rfl xvX12_sign xm12_282 (kf_m_sign (d := d) L4 e6) (LY.lt L4 (by decide)) (LY.k1262 L4) (by decide) rfl rfl (by omega) (by decide) (Nat.le_of_ble_eq_true rfl) ?_
  rintro _ _ ⟨⟨rfl, rfl⟩, L7⟩
  refine XS.go (s_iloadn rfl rfl rfl) ?_
  refine XS.go (s_bipush (v := 11) rfl rfl) ?_
  refine r_icmp_ne (tgt := 200) rfl rfl (fun qc8 => ?_) (fun qc8 => ?_)
  · rw [if_pos qc8] at hf
    refine XS.go (s_iloadn rfl rfl rfl) ?_
    refine XS.go (s_bipush (v := 12) rfl rfl) ?_
    refine r_icmp_ne (tgt := 213) rfl rfl (fun qc9 => ?_) (fun qc9 => ?_)
    · rw [if_pos qc9] at hf
      refine XS.go (s_aloadn rfl rfl rfl) ?_
      rcases e11 : f_m_unionBody r5.2 with _ | r10
      · rw [e11] at hf; cases hf
      rw [e11] at hf; dsimp only at hf
      refine r_callv rfl xvX12_unionBody xm12_298 (kf_m_unionBody (d := d) L7 e11) (LY.lt L7 (by decide)) (LY.k1262 L7) (by decide) rfl rfl (by omega) (by decide) (Nat.le_of_ble_eq_true rfl) ?_
      rintro _ _ ⟨⟨rfl, rfl⟩, L12⟩
      cases hf
      exact XR.retv rfl rfl (fun hret => ⟨_, hret, ⟨rfl, rfl⟩, L12⟩)
    · rw [if_neg qc9] at hf
      refine XS.go (s_aloadn rfl rfl rfl) ?_
      rcases e14 : f_m_tableBody r5.2 with _ | r13
      · rw [e14] at hf; cases hf
      rw [e14] at hf; dsimp only at hf
      refine r_callv rfl xvX12_tableBody xm12_295 (kf_m_tableBody (d := d) L7 e14) (LY.lt L7 (by decide)) (LY.k1262 L7) (by decide) rfl rfl (by omega) (by decide) (Nat.le_of_ble_eq_true rfl) ?_
      rintro _ _ ⟨⟨rfl, rfl⟩, L15⟩
      refine XS.go (s_goto (tgt := 217) rfl rfl) ?_
      cases hf
      exact XR.retv rfl rfl (fun hret => ⟨_, hret, ⟨rfl, rfl⟩, L15⟩)
  · rw [if_neg qc8] at hf
    refine XS.go (s_aloadn rfl rfl rfl) ?_
    rcases e17 : f_m_structBody r5.2 with _ | r16
    · rw [e17] at hf; cases hf
    rw [e17] at hf; dsimp only at hf
    refine r_callv rfl xvX12_structBody xm12_292 (kf_m_structBody (d := d) L7 e17) (LY.lt L7 (by decide)) (LY.k1262 L7) (by decide) rfl rfl (by omega) (by decide) (Nat.le_of_ble_eq_true rfl) ?_
    rintro _ _ ⟨⟨rfl, rfl⟩, L18⟩
    refine XS.go (s_goto (tgt := 217) rfl rfl) ?_
    cases hf
    exact XR.retv rfl rfl (fun hret => ⟨_, hret, ⟨rfl, rfl⟩, L18⟩)
def b_m_define_127 (x1 : Int32) (y1 : Int32) (y2 : Int32) (h : XH) : Option (Unit × XH) := (if 0 ≤ y1 ∧ y1 < nI 40 then (if ¬ x1 = 11 then (if ¬ x1 = 12 then (b_m_define_166 x1 (hi h 1262 16) (hi h 1262 41) (hsi h 1271 (Int32.toNatClampNeg y1) y2)) else (b_m_define_166 x1 (hi h 1262 16) (hi h 1262 31) (hsi h 1271 (Int32.toNatClampNeg y1) y2))) else (b_m_define_166 x1 (hi h 1262 16) (hi h 1262 20) (hsi h 1271 (Int32.toNatClampNeg y1) y2))) else none)
set_option maxRecDepth 20000 in
theorem kb_m_define_127 {l : Launch} {G : XG} {d : Nat} {x1 : Int32} {y1 : Int32} {y2 : Int32} {h : XH} {r : Unit × XH} (L0 : LY h) (hf : b_m_define_127 x1 y1 y2 h = some r) : XR l G xEX12_define (d + 5) (127, [some (.ref 1262), some (.int x1)], [(.int y2), (.int y1), (.ref 1271)], h) (fun C => ∃ v, xRet xEX12_define C v ∧ (C.2.2.2 = r.2 ∧ v = none) ∧ LY r.2) := by
  unfold b_m_define_127 at hf
  by_cases qk19 : 0 ≤ y1 ∧ y1 < nI 40
  rotate_left
  · rw [if_neg qk19] at hf; cases hf
  rw [if_pos qk19] at hf
  refine XS.go (s_iast rfl (LY.lt L0 (by decide)) (LY.k1271 L0) (inLit (LY.n1271 L0) qk19.1 qk19.2 (by decide))) ?_
  refine XS.go (s_aloadn rfl rfl rfl) ?_
  refine XS.go (s_getr rfl xf12_37 (LY.lt (by simp only [LY_si, LY_sj]; exact L0) (by decide)) (LY.k1262 (by simp only [LY_si, LY_sj]; exact L0)) (by decide) rfl (LY.r1262_19 (by simp only [LY_si, LY_sj]; exact L0))) ?_
  refine XS.go (s_aloadn rfl rfl rfl) ?_
  refine XS.go (s_getie rfl xf12_247 (LY.lt (by simp only [LY_si, LY_sj]; exact L0) (by decide)) (LY.k1262 (by simp only [LY_si, LY_sj]; exact L0)) (by decide) rfl (hi_hsi_na (by decide))) ?_
  refine XS.go (s_iloadn rfl rfl rfl) ?_
  refine XS.go (s_bipush (v := 11) rfl rfl) ?_
  refine r_icmp_ne (tgt := 149) rfl rfl (fun qc20 => ?_) (fun qc20 => ?_)
  · rw [if_pos qc20] at hf
    refine XS.go (s_iloadn rfl rfl rfl) ?_
    refine XS.go (s_bipush (v := 12) rfl rfl) ?_
    refine r_icmp_ne (tgt := 162) rfl rfl (fun qc21 => ?_) (fun qc21 => ?_)
    · rw [if_pos qc21] at hf
      refine XS.go (s_aloadn rfl rfl rfl) ?_
      refine XS.go (s_getie rfl xf12_260 (LY.lt (by simp only [LY_si, LY_sj]; exact L0) (by decide)) (LY.k1262 (by simp only [LY_si, LY_sj]; exact L0)) (by decide) rfl (hi_hsi_na (by decide))) ?_
      exact XR.forget (L2 := [some (.ref 1262), some (.int x1)]) ⟨rfl, ⟨rfl, trivial⟩⟩ (kb_m_define_166 (by simp only [LY_si, LY_sj]; exact L0) hf)
    · rw [if_neg qc21] at hf
      refine XS.go (s_aloadn rfl rfl rfl) ?_
      refine XS.go (s_getie rfl xf12_257 (LY.lt (by simp only [LY_si, LY_sj]; exact L0) (by decide)) (LY.k1262 (by simp only [LY_si, LY_sj]; exact L0)) (by decide) rfl (hi_hsi_na (by decide))) ?_
      refine XS.go (s_goto (tgt := 166) rfl rfl) ?_
      exact XR.forget (L2 := [some (.ref 1262), some (.int x1)]) ⟨rfl, ⟨rfl, trivial⟩⟩ (kb_m_define_166 (by simp only [LY_si, LY_sj]; exact L0) hf)
  · rw [if_neg qc20] at hf
    refine XS.go (s_aloadn rfl rfl rfl) ?_
    refine XS.go (s_getie rfl xf12_254 (LY.lt (by simp only [LY_si, LY_sj]; exact L0) (by decide)) (LY.k1262 (by simp only [LY_si, LY_sj]; exact L0)) (by decide) rfl (hi_hsi_na (by decide))) ?_
    refine XS.go (s_goto (tgt := 166) rfl rfl) ?_
    exact XR.forget (L2 := [some (.ref 1262), some (.int x1)]) ⟨rfl, ⟨rfl, trivial⟩⟩ (kb_m_define_166 (by simp only [LY_si, LY_sj]; exact L0) hf)
def b_m_define_85 (x1 : Int32) (h : XH) : Option (Unit × XH) := (if 0 ≤ (hi h 1262 16) ∧ (hi h 1262 16) < nI 40 then (if ¬ x1 = 11 then (if ¬ x1 = 12 then (b_m_define_127 x1 (hi h 1262 16) 4 (hsi h 1270 (Int32.toNatClampNeg (hi h 1262 16)) (hi h 1262 13))) else (b_m_define_127 x1 (hi h 1262 16) 3 (hsi h 1270 (Int32.toNatClampNeg (hi h 1262 16)) (hi h 1262 13)))) else (b_m_define_127 x1 (hi h 1262 16) 2 (hsi h 1270 (Int32.toNatClampNeg (hi h 1262 16)) (hi h 1262 13)))) else none)
set_option maxRecDepth 20000 in
theorem kb_m_define_85 {l : Launch} {G : XG} {d : Nat} {x1 : Int32} {h : XH} {r : Unit × XH} (L0 : LY h) (hf : b_m_define_85 x1 h = some r) : XR l G xEX12_define (d + 5) (85, [some (.ref 1262), some (.int x1)], [], h) (fun C => ∃ v, xRet xEX12_define C v ∧ (C.2.2.2 = r.2 ∧ v = none) ∧ LY r.2) := by
  unfold b_m_define_85 at hf
  refine XS.go (s_aloadn rfl rfl rfl) ?_
  refine XS.go (s_getr rfl xf12_31 (LY.lt L0 (by decide)) (LY.k1262 L0) (by decide) rfl (LY.r1262_17 L0)) ?_
  refine XS.go (s_aloadn rfl rfl rfl) ?_
  refine XS.go (s_getie rfl xf12_247 (LY.lt L0 (by decide)) (LY.k1262 L0) (by decide) rfl rfl) ?_
  refine XS.go (s_aloadn rfl rfl rfl) ?_
  refine XS.go (s_getie rfl xf12_224 (LY.lt L0 (by decide)) (LY.k1262 L0) (by decide) rfl rfl) ?_
  by_cases qk22 : 0 ≤ (hi h 1262 16) ∧ (hi h 1262 16) < nI 40
  rotate_left
  · rw [if_neg qk22] at hf; cases hf
  rw [if_pos qk22] at hf
  refine XS.go (s_iast rfl (LY.lt L0 (by decide)) (LY.k1270 L0) (inLit (LY.n1270 L0) qk22.1 qk22.2 (by decide))) ?_
  refine XS.go (s_aloadn rfl rfl rfl) ?_
  refine XS.go (s_getr rfl xf12_34 (LY.lt (by simp only [LY_si, LY_sj]; exact L0) (by decide)) (LY.k1262 (by simp only [LY_si, LY_sj]; exact L0)) (by decide) rfl (LY.r1262_18 (by simp only [LY_si, LY_sj]; exact L0))) ?_
  refine XS.go (s_aloadn rfl rfl rfl) ?_
  refine XS.go (s_getie rfl xf12_247 (LY.lt (by simp only [LY_si, LY_sj]; exact L0) (by decide)) (LY.k1262 (by simp only [LY_si, LY_sj]; exact L0)) (by decide) rfl (hi_hsi_na (by decide))) ?_
  refine XS.go (s_iloadn rfl rfl rfl) ?_
  refine XS.go (s_bipush (v := 11) rfl rfl) ?_
  refine r_icmp_ne (tgt := 116) rfl rfl (fun qc23 => ?_) (fun qc23 => ?_)
  · rw [if_pos qc23] at hf
    refine XS.go (s_iloadn rfl rfl rfl) ?_
    refine XS.go (s_bipush (v := 12) rfl rfl) ?_
    refine r_icmp_ne (tgt := 126) rfl rfl (fun qc24 => ?_) (fun qc24 => ?_)
    · rw [if_pos qc24] at hf
      refine XS.go (s_iconst (v := 4) rfl rfl) ?_
      exact XR.forget (L2 := [some (.ref 1262), some (.int x1)]) ⟨rfl, ⟨rfl, trivial⟩⟩ (kb_m_define_127 (by simp only [LY_si, LY_sj]; exact L0) hf)
    · rw [if_neg qc24] at hf
      refine XS.go (s_iconst (v := 3) rfl rfl) ?_
      refine XS.go (s_goto (tgt := 127) rfl rfl) ?_
      exact XR.forget (L2 := [some (.ref 1262), some (.int x1)]) ⟨rfl, ⟨rfl, trivial⟩⟩ (kb_m_define_127 (by simp only [LY_si, LY_sj]; exact L0) hf)
  · rw [if_neg qc23] at hf
    refine XS.go (s_iconst (v := 2) rfl rfl) ?_
    refine XS.go (s_goto (tgt := 127) rfl rfl) ?_
    exact XR.forget (L2 := [some (.ref 1262), some (.int x1)]) ⟨rfl, ⟨rfl, trivial⟩⟩ (kb_m_define_127 (by simp only [LY_si, LY_sj]; exact L0) hf)
def b_m_define_79 (h : XH) : Option (Unit × XH) := (match f_m_flaw 4 h with | none => none | some r25 => (some ((), r25.2)))
set_option maxRecDepth 20000 in
theorem kb_m_define_79 {l : Launch} {G : XG} {d : Nat} {h : XH} {r : Unit × XH} (L0 : LY h) (hf : b_m_define_79 h = some r) : XR l G xEX12_define (d + 5) (79, [some (.ref 1262), none], [], h) (fun C => ∃ v, xRet xEX12_define C v ∧ (C.2.2.2 = r.2 ∧ v = none) ∧ LY r.2) := by
  unfold b_m_define_79 at hf
  refine XS.go (s_aloadn rfl rfl rfl) ?_
  refine XS.go (s_iconst (v := 4) rfl rfl) ?_
  rcases e26 : f_m_flaw 4 h with _ | r25
  · rw [e26] at hf; cases hf
  rw [e26] at hf; dsimp only at hf
  refine r_callv rfl xvX12_flaw xm12_230 (kf_m_flaw (d := d) L0 e26) (LY.lt L0 (by decide)) (LY.k1262 L0) (by decide) rfl rfl (by omega) (by decide) (Nat.le_of_ble_eq_true rfl) ?_
  rintro _ _ ⟨⟨rfl, rfl⟩, L27⟩
  cases hf
  exact XR.retv rfl rfl (fun hret => ⟨_, hret, ⟨rfl, rfl⟩, L27⟩)
def f_m_define (a0 : Int32) (h : XH) : Option (Unit × XH) := (match f_m_take h with | none => none | some r28 => (match f_m_isName r28.2 with | none => none | some r31 => (if ¬ r31.1 = 0 then (match f_m_definition (hi r31.2 1262 13) r31.2 with | none => none | some r35 => (if r35.1 = (-1) then (if ¬ a0 = 11 then (if ¬ a0 = 12 then (if ¬ (hi r35.2 1262 41) = 8 then (b_m_define_85 a0 r35.2) else (b_m_define_79 r35.2)) else (if ¬ (hi r35.2 1262 31) = 16 then (b_m_define_85 a0 r35.2) else (b_m_define_79 r35.2))) else (if ¬ (hi r35.2 1262 20) = 12 then (b_m_define_85 a0 r35.2) else (b_m_define_79 r35.2))) else (match f_m_flaw 3 r35.2 with | none => none | some r44 => (some ((), r44.2))))) else (match f_m_misfit r31.2 with | none => none | some r47 => (some ((), r47.2))))))
set_option maxRecDepth 20000 in
theorem kf_m_define {l : Launch} {G : XG} {d : Nat} {a0 : Int32} {h : XH} {r : Unit × XH} (L0 : LY h) (hf : f_m_define a0 h = some r) : XC l G xEX12_define (d + 5) [.ref 1262, .int a0] h (fun v h2 => (h2 = r.2 ∧ v = none) ∧ LY r.2) := by
  refine XC.virt xvX12_define (Nat.le_of_ble_eq_true rfl) ?_
  unfold f_m_define at hf
  refine XS.go (s_aloadn rfl rfl rfl) ?_
  rcases e29 : f_m_take h with _ | r28
  · rw [e29] at hf; cases hf
  rw [e29] at hf; dsimp only at hf
  refine r_callv rfl xvX12_take xm12_240 (kf_m_take (d := d) L0 e29) (LY.lt L0 (by decide)) (LY.k1262 L0) (by decide) rfl rfl (by omega) (by decide) (Nat.le_of_ble_eq_true rfl) ?_
  rintro _ _ ⟨⟨rfl, rfl⟩, L30⟩
  refine XS.go (s_aloadn rfl rfl rfl) ?_
  rcases e32 : f_m_isName r28.2 with _ | r31
  · rw [e32] at hf; cases hf
  rw [e32] at hf; dsimp only at hf
  refine r_callv rfl xvX12_isName xm12_243 (kf_m_isName (d := d) L30 e32) (LY.lt L30 (by decide)) (LY.k1262 L30) (by decide) rfl rfl (by omega) (by decide) (Nat.le_of_ble_eq_true rfl) ?_
  rintro _ _ ⟨⟨rfl, rfl⟩, L33⟩
  refine r_if_ne (tgt := 16) rfl rfl (fun qc34 => ?_) (fun qc34 => ?_)
  · rw [if_pos qc34] at hf
    refine XS.go (s_aloadn rfl rfl rfl) ?_
    refine XS.go (s_aloadn rfl rfl rfl) ?_
    refine XS.go (s_getie rfl xf12_224 (LY.lt L33 (by decide)) (LY.k1262 L33) (by decide) rfl rfl) ?_
    rcases e36 : f_m_definition (hi r31.2 1262 13) r31.2 with _ | r35
    · rw [e36] at hf; cases hf
    rw [e36] at hf; dsimp only at hf
    refine r_callv rfl xvX12_definition xm12_289 (kf_m_definition (d := d) L33 e36) (LY.lt L33 (by decide)) (LY.k1262 L33) (by decide) rfl rfl (by omega) (by decide) (Nat.le_of_ble_eq_true rfl) ?_
    rintro _ _ ⟨⟨rfl, rfl⟩, L37⟩
    refine XS.go (s_iconst (v := (-1)) rfl rfl) ?_
    refine r_icmp_eq (tgt := 34) rfl rfl (fun qc38 => ?_) (fun qc38 => ?_)
    · rw [if_pos qc38] at hf
      refine XS.go (s_iloadn rfl rfl rfl) ?_
      refine XS.go (s_bipush (v := 11) rfl rfl) ?_
      refine r_icmp_ne (tgt := 52) rfl rfl (fun qc39 => ?_) (fun qc39 => ?_)
      · rw [if_pos qc39] at hf
        refine XS.go (s_iloadn rfl rfl rfl) ?_
        refine XS.go (s_bipush (v := 12) rfl rfl) ?_
        refine r_icmp_ne (tgt := 70) rfl rfl (fun qc40 => ?_) (fun qc40 => ?_)
        · rw [if_pos qc40] at hf
          refine XS.go (s_aloadn rfl rfl rfl) ?_
          refine XS.go (s_getie rfl xf12_260 (LY.lt L37 (by decide)) (LY.k1262 L37) (by decide) rfl rfl) ?_
          refine XS.go (s_bipush (v := 8) rfl rfl) ?_
          refine r_icmp_ne (tgt := 85) rfl rfl (fun qc41 => ?_) (fun qc41 => ?_)
          · rw [if_pos qc41] at hf
            exact XR.forget (L2 := [some (.ref 1262), some (.int a0)]) ⟨rfl, ⟨rfl, trivial⟩⟩ (kb_m_define_85 L37 hf)
          · rw [if_neg qc41] at hf
            exact XR.forget (L2 := [some (.ref 1262), none]) ⟨rfl, trivial⟩ (kb_m_define_79 L37 hf)
        · rw [if_neg qc40] at hf
          refine XS.go (s_aloadn rfl rfl rfl) ?_
          refine XS.go (s_getie rfl xf12_257 (LY.lt L37 (by decide)) (LY.k1262 L37) (by decide) rfl rfl) ?_
          refine XS.go (s_bipush (v := 16) rfl rfl) ?_
          refine r_icmp_ne (tgt := 85) rfl rfl (fun qc42 => ?_) (fun qc42 => ?_)
          · rw [if_pos qc42] at hf
            exact XR.forget (L2 := [some (.ref 1262), some (.int a0)]) ⟨rfl, ⟨rfl, trivial⟩⟩ (kb_m_define_85 L37 hf)
          · rw [if_neg qc42] at hf
            refine XS.go (s_goto (tgt := 79) rfl rfl) ?_
            exact XR.forget (L2 := [some (.ref 1262), none]) ⟨rfl, trivial⟩ (kb_m_define_79 L37 hf)
      · rw [if_neg qc39] at hf
        refine XS.go (s_aloadn rfl rfl rfl) ?_
        refine XS.go (s_getie rfl xf12_254 (LY.lt L37 (by decide)) (LY.k1262 L37) (by decide) rfl rfl) ?_
        refine XS.go (s_bipush (v := 12) rfl rfl) ?_
        refine r_icmp_ne (tgt := 85) rfl rfl (fun qc43 => ?_) (fun qc43 => ?_)
        · rw [if_pos qc43] at hf
          exact XR.forget (L2 := [some (.ref 1262), some (.int a0)]) ⟨rfl, ⟨rfl, trivial⟩⟩ (kb_m_define_85 L37 hf)
        · rw [if_neg qc43] at hf
          refine XS.go (s_goto (tgt := 79) rfl rfl) ?_
          exact XR.forget (L2 := [some (.ref 1262), none]) ⟨rfl, trivial⟩ (kb_m_define_79 L37 hf)
    · rw [if_neg qc38] at hf
      refine XS.go (s_aloadn rfl rfl rfl) ?_
      refine XS.go (s_iconst (v := 3) rfl rfl) ?_
      rcases e45 : f_m_flaw 3 r35.2 with _ | r44
      · rw [e45] at hf; cases hf
      rw [e45] at hf; dsimp only at hf
      refine r_callv rfl xvX12_flaw xm12_230 (kf_m_flaw (d := d) L37 e45) (LY.lt L37 (by decide)) (LY.k1262 L37) (by decide) rfl rfl (by omega) (by decide) (Nat.le_of_ble_eq_true rfl) ?_
      rintro _ _ ⟨⟨rfl, rfl⟩, L46⟩
      cases hf
      exact XR.retv rfl rfl (fun hret => ⟨_, hret, ⟨rfl, rfl⟩, L46⟩)
  · rw [if_neg qc34] at hf
    refine XS.go (s_aloadn rfl rfl rfl) ?_
    rcases e48 : f_m_misfit r31.2 with _ | r47
    · rw [e48] at hf; cases hf
    rw [e48] at hf; dsimp only at hf
    refine r_callv rfl xvX12_misfit xm12_237 (kf_m_misfit (d := d) L33 e48) (LY.lt L33 (by decide)) (LY.k1262 L33) (by decide) rfl rfl (by omega) (by decide) (Nat.le_of_ble_eq_true rfl) ?_
    rintro _ _ ⟨⟨rfl, rfl⟩, L49⟩
    cases hf
    exact XR.retv rfl rfl (fun hret => ⟨_, hret, ⟨rfl, rfl⟩, L49⟩)
def b_m_resolve_279 (K226 : Int32 → XH → Option (Unit × XH)) (K241 : Int32 → Int32 → Int32 → XH → Option (Unit × XH)) (x1 : Int32) (x3 : Int32) (y0 : Int32) (y1 : Int32) (h : XH) : Option (Unit × XH) := (K241 x1 (y0 + y1) (x3 + 1) h)
set_option maxRecDepth 20000 in
theorem kb_m_resolve_279 {l : Launch} {G : XG} {d : Nat} {K226 : Int32 → XH → Option (Unit × XH)} {K241 : Int32 → Int32 → Int32 → XH → Option (Unit × XH)} {x1 : Int32} {x3 : Int32} {y0 : Int32} {y1 : Int32} {h : XH} {r : Unit × XH} (hK226 : ∀ (x1 : Int32) (h : XH), LY h → K226 x1 h = some r → XR l G xEX12_resolve (d + 2) (226, [some (.ref 1262), some (.int x1), none, none, none], [], h) (fun C => ∃ v, xRet xEX12_resolve C v ∧ (C.2.2.2 = r.2 ∧ v = none) ∧ LY r.2)) (hK241 : ∀ (x1 : Int32) (x2 : Int32) (x3 : Int32) (h : XH), LY h → K241 x1 x2 x3 h = some r → XR l G xEX12_resolve (d + 2) (241, [some (.ref 1262), some (.int x1), some (.int x2), some (.int x3), none], [], h) (fun C => ∃ v, xRet xEX12_resolve C v ∧ (C.2.2.2 = r.2 ∧ v = none) ∧ LY r.2)) (L0 : LY h) (hf : b_m_resolve_279 K226 K241 x1 x3 y0 y1 h = some r) : XR l G xEX12_resolve (d + 2) (279, [some (.ref 1262), some (.int x1), none, some (.int x3), none], [(.int y1), (.int y0)], h) (fun C => ∃ v, xRet xEX12_resolve C v ∧ (C.2.2.2 = r.2 ∧ v = none) ∧ LY r.2) := by
  unfold b_m_resolve_279 at hf
  refine XS.go (s_iadd rfl) ?_
  refine XS.go (s_istoren rfl rfl (Nat.le_of_ble_eq_true rfl)) ?_
  refine XS.go (s_inc rfl rfl (Nat.le_of_ble_eq_true rfl)) ?_
  refine XS.go (s_goto (tgt := 241) rfl rfl) ?_
  exact XR.forget (L2 := [some (.ref 1262), some (.int x1), some (.int (y0 + y1)), some (.int (x3 + 1)), none]) ⟨rfl, ⟨rfl, ⟨rfl, ⟨rfl, trivial⟩⟩⟩⟩ (hK241 x1 (y0 + y1) (x3 + 1) _ L0 hf)
def s_m_resolve_241 (K226 : Int32 → XH → Option (Unit × XH)) (K241 : Int32 → Int32 → Int32 → XH → Option (Unit × XH)) (x1 : Int32) (x2 : Int32) (x3 : Int32) (h : XH) : Option (Unit × XH) := (if 0 ≤ x1 ∧ x1 < nI 16 then (if ((16 * x1) + (hi h 1283 (Int32.toNatClampNeg x1))) ≤ x3 then (K226 (x1 + 1) (hsi h 1284 (Int32.toNatClampNeg x1) x2)) else (if 0 ≤ x3 ∧ x3 < nI 256 then (if ¬ (hi h 1286 (Int32.toNatClampNeg x3)) = 4 then (b_m_resolve_279 K226 K241 x1 x3 x2 1 (hsi h 1289 (Int32.toNatClampNeg x3) x2)) else (b_m_resolve_279 K226 K241 x1 x3 x2 2 (hsi h 1289 (Int32.toNatClampNeg x3) x2))) else none)) else none)
set_option maxRecDepth 20000 in
theorem ks_m_resolve_241 {l : Launch} {G : XG} {d : Nat} {K226 : Int32 → XH → Option (Unit × XH)} {K241 : Int32 → Int32 → Int32 → XH → Option (Unit × XH)} {x1 : Int32} {x2 : Int32} {x3 : Int32} {h : XH} {r : Unit × XH} (hK226 : ∀ (x1 : Int32) (h : XH), LY h → K226 x1 h = some r → XR l G xEX12_resolve (d + 2) (226, [some (.ref 1262), some (.int x1), none, none, none], [], h) (fun C => ∃ v, xRet xEX12_resolve C v ∧ (C.2.2.2 = r.2 ∧ v = none) ∧ LY r.2)) (hK241 : ∀ (x1 : Int32) (x2 : Int32) (x3 : Int32) (h : XH), LY h → K241 x1 x2 x3 h = some r → XR l G xEX12_resolve (d + 2) (241, [some (.ref 1262), some (.int x1), some (.int x2), some (.int x3), none], [], h) (fun C => ∃ v, xRet xEX12_resolve C v ∧ (C.2.2.2 = r.2 ∧ v = none) ∧ LY r.2)) (L0 : LY h) (hf : s_m_resolve_241 K226 K241 x1 x2 x3 h = some r) : XR l G xEX12_resolve (d + 2) (241, [some (.ref 1262), some (.int x1), some (.int x2), some (.int x3), none], [], h) (fun C => ∃ v, xRet xEX12_resolve C v ∧ (C.2.2.2 = r.2 ∧ v = none) ∧ LY r.2) := by
  unfold s_m_resolve_241 at hf
  refine XS.go (s_iloadn rfl rfl rfl) ?_
  refine XS.go (s_bipush (v := 16) rfl rfl) ?_
  refine XS.go (s_iloadn rfl rfl rfl) ?_
  refine XS.go (s_imul rfl) ?_
  refine XS.go (s_aloadn rfl rfl rfl) ?_
  refine XS.go (s_getr rfl xf12_70 (LY.lt L0 (by decide)) (LY.k1262 L0) (by decide) rfl (LY.r1262_32 L0)) ?_
  refine XS.go (s_iloadn rfl rfl rfl) ?_
  by_cases qk1 : 0 ≤ x1 ∧ x1 < nI 16
  rotate_left
  · rw [if_neg qk1] at hf; cases hf
  rw [if_pos qk1] at hf
  refine XS.go (s_ialde rfl (LY.lt L0 (by decide)) (LY.k1283 L0) (inLit (LY.n1283 L0) qk1.1 qk1.2 (by decide)) rfl) ?_
  refine XS.go (s_iadd rfl) ?_
  refine r_icmp_ge (tgt := 287) rfl rfl (fun qc2 => ?_) (fun qc2 => ?_)
  · rw [if_pos qc2] at hf
    refine XS.go (s_aloadn rfl rfl rfl) ?_
    refine XS.go (s_getr rfl xf12_73 (LY.lt L0 (by decide)) (LY.k1262 L0) (by decide) rfl (LY.r1262_33 L0)) ?_
    refine XS.go (s_iloadn rfl rfl rfl) ?_
    refine XS.go (s_iloadn rfl rfl rfl) ?_
    refine XS.go (s_iast rfl (LY.lt L0 (by decide)) (LY.k1284 L0) (inLit (LY.n1284 L0) qk1.1 qk1.2 (by decide))) ?_
    refine XS.go (s_inc rfl rfl (Nat.le_of_ble_eq_true rfl)) ?_
    refine XS.go (s_goto (tgt := 226) rfl rfl) ?_
    exact XR.forget (L2 := [some (.ref 1262), some (.int (x1 + 1)), none, none, none]) ⟨rfl, ⟨rfl, trivial⟩⟩ (hK226 (x1 + 1) _ (by simp only [LY_si, LY_sj]; exact L0) hf)
  · rw [if_neg qc2] at hf
    refine XS.go (s_aloadn rfl rfl rfl) ?_
    refine XS.go (s_getr rfl xf12_88 (LY.lt L0 (by decide)) (LY.k1262 L0) (by decide) rfl (LY.r1262_38 L0)) ?_
    refine XS.go (s_iloadn rfl rfl rfl) ?_
    refine XS.go (s_iloadn rfl rfl rfl) ?_
    by_cases qk3 : 0 ≤ x3 ∧ x3 < nI 256
    rotate_left
    · rw [if_neg qk3] at hf; cases hf
    rw [if_pos qk3] at hf
    refine XS.go (s_iast rfl (LY.lt L0 (by decide)) (LY.k1289 L0) (inLit (LY.n1289 L0) qk3.1 qk3.2 (by decide))) ?_
    refine XS.go (s_iloadn rfl rfl rfl) ?_
    refine XS.go (s_aloadn rfl rfl rfl) ?_
    refine XS.go (s_getr rfl xf12_79 (LY.lt (by simp only [LY_si, LY_sj]; exact L0) (by decide)) (LY.k1262 (by simp only [LY_si, LY_sj]; exact L0)) (by decide) rfl (LY.r1262_35 (by simp only [LY_si, LY_sj]; exact L0))) ?_
    refine XS.go (s_iloadn rfl rfl rfl) ?_
    refine XS.go (s_ialde rfl (LY.lt (by simp only [LY_si, LY_sj]; exact L0) (by decide)) (LY.k1286 (by simp only [LY_si, LY_sj]; exact L0)) (inLit (LY.n1286 (by simp only [LY_si, LY_sj]; exact L0)) qk3.1 qk3.2 (by decide)) (hi_hsi_na (by decide))) ?_
    refine XS.go (s_iconst (v := 4) rfl rfl) ?_
    refine r_icmp_ne (tgt := 278) rfl rfl (fun qc4 => ?_) (fun qc4 => ?_)
    · rw [if_pos qc4] at hf
      refine XS.go (s_iconst (v := 1) rfl rfl) ?_
      exact XR.forget (L2 := [some (.ref 1262), some (.int x1), none, some (.int x3), none]) ⟨rfl, ⟨rfl, ⟨rfl, trivial⟩⟩⟩ (kb_m_resolve_279 hK226 hK241 (by simp only [LY_si, LY_sj]; exact L0) hf)
    · rw [if_neg qc4] at hf
      refine XS.go (s_iconst (v := 2) rfl rfl) ?_
      refine XS.go (s_goto (tgt := 279) rfl rfl) ?_
      exact XR.forget (L2 := [some (.ref 1262), some (.int x1), none, some (.int x3), none]) ⟨rfl, ⟨rfl, ⟨rfl, trivial⟩⟩⟩ (kb_m_resolve_279 hK226 hK241 (by simp only [LY_si, LY_sj]; exact L0) hf)
def b_m_resolve_241 (K226 : Int32 → XH → Option (Unit × XH)) : Nat → Int32 → Int32 → Int32 → XH → Option (Unit × XH)
  | 0, _, _, _, _ => none
  | n + 1, x1, x2, x3, h => s_m_resolve_241 K226 (b_m_resolve_241 K226 n) x1 x2 x3 h
theorem kb_m_resolve_241 {l : Launch} {G : XG} {d : Nat} {K226 : Int32 → XH → Option (Unit × XH)} {n : Nat} {x1 : Int32} {x2 : Int32} {x3 : Int32} {h : XH} {r : Unit × XH} (hK226 : ∀ (x1 : Int32) (h : XH), LY h → K226 x1 h = some r → XR l G xEX12_resolve (d + 2) (226, [some (.ref 1262), some (.int x1), none, none, none], [], h) (fun C => ∃ v, xRet xEX12_resolve C v ∧ (C.2.2.2 = r.2 ∧ v = none) ∧ LY r.2)) (L0 : LY h) (hf : b_m_resolve_241 K226 n x1 x2 x3 h = some r) : XR l G xEX12_resolve (d + 2) (241, [some (.ref 1262), some (.int x1), some (.int x2), some (.int x3), none], [], h) (fun C => ∃ v, xRet xEX12_resolve C v ∧ (C.2.2.2 = r.2 ∧ v = none) ∧ LY r.2) := by
  induction n generalizing x1 x2 x3 h with
  | zero => cases hf
  | succ n ih => exact ks_m_resolve_241 hK226 (fun x1 x2 x3 h L0 hf => ih (h := h) (x1 := x1) (x2 := x2) (x3 := x3) L0 hf) L0 hf
def s_m_resolve_226 (K226 : Int32 → XH → Option (Unit × XH)) (x1 : Int32) (h : XH) : Option (Unit × XH) := (if (hi h 1262 31) ≤ x1 then (some ((), h)) else (b_m_resolve_241 K226 100000 x1 0 (16 * x1) h))
set_option maxRecDepth 20000 in
theorem ks_m_resolve_226 {l : Launch} {G : XG} {d : Nat} {K226 : Int32 → XH → Option (Unit × XH)} {x1 : Int32} {h : XH} {r : Unit × XH} (hK226 : ∀ (x1 : Int32) (h : XH), LY h → K226 x1 h = some r → XR l G xEX12_resolve (d + 2) (226, [some (.ref 1262), some (.int x1), none, none, none], [], h) (fun C => ∃ v, xRet xEX12_resolve C v ∧ (C.2.2.2 = r.2 ∧ v = none) ∧ LY r.2)) (L0 : LY h) (hf : s_m_resolve_226 K226 x1 h = some r) : XR l G xEX12_resolve (d + 2) (226, [some (.ref 1262), some (.int x1), none, none, none], [], h) (fun C => ∃ v, xRet xEX12_resolve C v ∧ (C.2.2.2 = r.2 ∧ v = none) ∧ LY r.2) := by
  unfold s_m_resolve_226 at hf
  refine XS.go (s_iloadn rfl rfl rfl) ?_
  refine XS.go (s_aloadn rfl rfl rfl) ?_
  refine XS.go (s_getie rfl xf12_257 (LY.lt L0 (by decide)) (LY.k1262 L0) (by decide) rfl rfl) ?_
  refine r_icmp_ge (tgt := 300) rfl rfl (fun qc5 => ?_) (fun qc5 => ?_)
  · rw [if_pos qc5] at hf
    cases hf
    exact XR.retv rfl rfl (fun hret => ⟨_, hret, ⟨rfl, rfl⟩, L0⟩)
  · rw [if_neg qc5] at hf
    refine XS.go (s_iconst (v := 0) rfl rfl) ?_
    refine XS.go (s_istoren rfl rfl (Nat.le_of_ble_eq_true rfl)) ?_
    refine XS.go (s_bipush (v := 16) rfl rfl) ?_
    refine XS.go (s_iloadn rfl rfl rfl) ?_
    refine XS.go (s_imul rfl) ?_
    refine XS.go (s_istoren rfl rfl (Nat.le_of_ble_eq_true rfl)) ?_
    exact XR.forget (L2 := [some (.ref 1262), some (.int x1), some (.int 0), some (.int (16 * x1)), none]) ⟨rfl, ⟨rfl, ⟨rfl, ⟨rfl, trivial⟩⟩⟩⟩ (kb_m_resolve_241 hK226 L0 hf)
def b_m_resolve_226 : Nat → Int32 → XH → Option (Unit × XH)
  | 0, _, _ => none
  | n + 1, x1, h => s_m_resolve_226 (b_m_resolve_226 n) x1 h
theorem kb_m_resolve_226 {l : Launch} {G : XG} {d : Nat} {n : Nat} {x1 : Int32} {h : XH} {r : Unit × XH} (L0 : LY h) (hf : b_m_resolve_226 n x1 h = some r) : XR l G xEX12_resolve (d + 2) (226, [some (.ref 1262), some (.int x1), none, none, none], [], h) (fun C => ∃ v, xRet xEX12_resolve C v ∧ (C.2.2.2 = r.2 ∧ v = none) ∧ LY r.2) := by
  induction n generalizing x1 h with
  | zero => cases hf
  | succ n ih => exact ks_m_resolve_226 (fun x1 h L0 hf => ih (h := h) (x1 := x1) L0 hf) L0 hf
def b_m_resolve_224 (h : XH) : Option (Unit × XH) := (b_m_resolve_226 100000 0 h)
set_option maxRecDepth 20000 in
theorem kb_m_resolve_224 {l : Launch} {G : XG} {d : Nat} {h : XH} {r : Unit × XH} (L0 : LY h) (hf : b_m_resolve_224 h = some r) : XR l G xEX12_resolve (d + 2) (224, [some (.ref 1262), none, none, none, none], [], h) (fun C => ∃ v, xRet xEX12_resolve C v ∧ (C.2.2.2 = r.2 ∧ v = none) ∧ LY r.2) := by
  unfold b_m_resolve_224 at hf
  refine XS.go (s_iconst (v := 0) rfl rfl) ?_
  refine XS.go (s_istoren rfl rfl (Nat.le_of_ble_eq_true rfl)) ?_
  exact XR.forget (L2 := [some (.ref 1262), some (.int 0), none, none, none]) ⟨rfl, ⟨rfl, trivial⟩⟩ (kb_m_resolve_226 L0 hf)
def b_m_resolve_218 (K2 : Int32 → XH → Option (Unit × XH)) (x1 : Int32) (h : XH) : Option (Unit × XH) := (K2 (x1 + 1) h)
set_option maxRecDepth 20000 in
theorem kb_m_resolve_218 {l : Launch} {G : XG} {d : Nat} {K2 : Int32 → XH → Option (Unit × XH)} {x1 : Int32} {h : XH} {r : Unit × XH} (hK2 : ∀ (x1 : Int32) (h : XH), LY h → K2 x1 h = some r → XR l G xEX12_resolve (d + 2) (2, [some (.ref 1262), some (.int x1), none, none, none], [], h) (fun C => ∃ v, xRet xEX12_resolve C v ∧ (C.2.2.2 = r.2 ∧ v = none) ∧ LY r.2)) (L0 : LY h) (hf : b_m_resolve_218 K2 x1 h = some r) : XR l G xEX12_resolve (d + 2) (218, [some (.ref 1262), some (.int x1), none, none, none], [], h) (fun C => ∃ v, xRet xEX12_resolve C v ∧ (C.2.2.2 = r.2 ∧ v = none) ∧ LY r.2) := by
  unfold b_m_resolve_218 at hf
  refine XS.go (s_inc rfl rfl (Nat.le_of_ble_eq_true rfl)) ?_
  refine XS.go (s_goto (tgt := 2) rfl rfl) ?_
  exact XR.forget (L2 := [some (.ref 1262), some (.int (x1 + 1)), none, none, none]) ⟨rfl, ⟨rfl, trivial⟩⟩ (hK2 (x1 + 1) _ L0 hf)
def b_m_resolve_77 (K2 : Int32 → XH → Option (Unit × XH)) (x1 : Int32) (x2 : Int32) (y0 : Int32) (h : XH) : Option (Unit × XH) := (if ¬ y0 = 0 then (if 0 ≤ x1 ∧ x1 < nI 400 then (if ¬ (hi h 1296 (Int32.toNatClampNeg x1)) = 2 then (if 0 ≤ x2 ∧ x2 < nI 40 then (if 0 ≤ (hi h 1297 (Int32.toNatClampNeg x1)) ∧ (hi h 1297 (Int32.toNatClampNeg x1)) < nI 256 then (if ¬ (hi h 1296 (Int32.toNatClampNeg x1)) = 1 then (b_m_resolve_218 K2 x1 (hsi (hsi h 1287 (Int32.toNatClampNeg (hi h 1297 (Int32.toNatClampNeg x1))) (hi h 1272 (Int32.toNatClampNeg x2))) 1286 (Int32.toNatClampNeg (hi h 1297 (Int32.toNatClampNeg x1))) (hi h 1271 (Int32.toNatClampNeg x2)))) else (b_m_resolve_218 K2 x1 (hsi (hsi h 1287 (Int32.toNatClampNeg (hi h 1297 (Int32.toNatClampNeg x1))) (hi h 1272 (Int32.toNatClampNeg x2))) 1288 (Int32.toNatClampNeg (hi h 1297 (Int32.toNatClampNeg x1))) (hi h 1271 (Int32.toNatClampNeg x2))))) else none) else none) else (if ¬ x1 = ((hi h 1262 46) - 1) then (if 0 ≤ x2 ∧ x2 < nI 40 then (if 0 ≤ (hi h 1297 (Int32.toNatClampNeg x1)) ∧ (hi h 1297 (Int32.toNatClampNeg x1)) < nI 64 then (b_m_resolve_218 K2 x1 (hsi h 1294 (Int32.toNatClampNeg (hi h 1297 (Int32.toNatClampNeg x1))) (hi h 1272 (Int32.toNatClampNeg x2)))) else none) else none) else (if 0 ≤ x2 ∧ x2 < nI 40 then (b_m_resolve_218 K2 x1 (hsi h 1262 45 (hi h 1272 (Int32.toNatClampNeg x2)))) else none))) else none) else (if 0 ≤ x1 ∧ x1 < nI 400 then (if 0 ≤ (hi h 1295 (Int32.toNatClampNeg x1)) ∧ (hi h 1295 (Int32.toNatClampNeg x1)) < nI 4001 then (b_m_resolve_218 K2 x1 (hsi (hsi h 1262 14 5) 1262 15 (hi h 1267 (Int32.toNatClampNeg (hi h 1295 (Int32.toNatClampNeg x1)))))) else none) else none))
set_option maxRecDepth 20000 in
theorem kb_m_resolve_77 {l : Launch} {G : XG} {d : Nat} {K2 : Int32 → XH → Option (Unit × XH)} {x1 : Int32} {x2 : Int32} {y0 : Int32} {h : XH} {r : Unit × XH} (hK2 : ∀ (x1 : Int32) (h : XH), LY h → K2 x1 h = some r → XR l G xEX12_resolve (d + 2) (2, [some (.ref 1262), some (.int x1), none, none, none], [], h) (fun C => ∃ v, xRet xEX12_resolve C v ∧ (C.2.2.2 = r.2 ∧ v = none) ∧ LY r.2)) (L0 : LY h) (hf : b_m_resolve_77 K2 x1 x2 y0 h = some r) : XR l G xEX12_resolve (d + 2) (77, [some (.ref 1262), some (.int x1), some (.int x2), none, none], [(.int y0)], h) (fun C => ∃ v, xRet xEX12_resolve C v ∧ (C.2.2.2 = r.2 ∧ v = none) ∧ LY r.2) := by
  unfold b_m_resolve_77 at hf
  refine XS.go (s_istoren rfl rfl (Nat.le_of_ble_eq_true rfl)) ?_
  refine XS.go (s_iloadn rfl rfl rfl) ?_
  refine r_if_ne (tgt := 105) rfl rfl (fun qc6 => ?_) (fun qc6 => ?_)
  · rw [if_pos qc6] at hf
    refine XS.go (s_aloadn rfl rfl rfl) ?_
    refine XS.go (s_getr rfl xf12_110 (LY.lt L0 (by decide)) (LY.k1262 L0) (by decide) rfl (LY.r1262_48 L0)) ?_
    refine XS.go (s_iloadn rfl rfl rfl) ?_
    by_cases qk7 : 0 ≤ x1 ∧ x1 < nI 400
    rotate_left
    · rw [if_neg qk7] at hf; cases hf
    rw [if_pos qk7] at hf
    refine XS.go (s_ialde rfl (LY.lt L0 (by decide)) (LY.k1296 L0) (inLit (LY.n1296 L0) qk7.1 qk7.2 (by decide)) rfl) ?_
    refine XS.go (s_iconst (v := 2) rfl rfl) ?_
    refine r_icmp_ne (tgt := 158) rfl rfl (fun qc8 => ?_) (fun qc8 => ?_)
    · rw [if_pos qc8] at hf
      refine XS.go (s_aloadn rfl rfl rfl) ?_
      refine XS.go (s_getr rfl xf12_113 (LY.lt L0 (by decide)) (LY.k1262 L0) (by decide) rfl (LY.r1262_49 L0)) ?_
      refine XS.go (s_iloadn rfl rfl rfl) ?_
      refine XS.go (s_ialde rfl (LY.lt L0 (by decide)) (LY.k1297 L0) (inLit (LY.n1297 L0) qk7.1 qk7.2 (by decide)) rfl) ?_
      refine XS.go (s_istore rfl (Nat.le_of_ble_eq_true rfl)) ?_
      refine XS.go (s_aloadn rfl rfl rfl) ?_
      refine XS.go (s_getr rfl xf12_82 (LY.lt L0 (by decide)) (LY.k1262 L0) (by decide) rfl (LY.r1262_36 L0)) ?_
      refine XS.go (s_iload rfl rfl) ?_
      refine XS.go (s_aloadn rfl rfl rfl) ?_
      refine XS.go (s_getr rfl xf12_37 (LY.lt L0 (by decide)) (LY.k1262 L0) (by decide) rfl (LY.r1262_19 L0)) ?_
      refine XS.go (s_iloadn rfl rfl rfl) ?_
      by_cases qk9 : 0 ≤ x2 ∧ x2 < nI 40
      rotate_left
      · rw [if_neg qk9] at hf; cases hf
      rw [if_pos qk9] at hf
      refine XS.go (s_ialde rfl (LY.lt L0 (by decide)) (LY.k1272 L0) (inLit (LY.n1272 L0) qk9.1 qk9.2 (by decide)) rfl) ?_
      by_cases qk10 : 0 ≤ (hi h 1297 (Int32.toNatClampNeg x1)) ∧ (hi h 1297 (Int32.toNatClampNeg x1)) < nI 256
      rotate_left
      · rw [if_neg qk10] at hf; cases hf
      rw [if_pos qk10] at hf
      refine XS.go (s_iast rfl (LY.lt L0 (by decide)) (LY.k1287 L0) (inLit (LY.n1287 L0) qk10.1 qk10.2 (by decide))) ?_
      refine XS.go (s_aloadn rfl rfl rfl) ?_
      refine XS.go (s_getr rfl xf12_110 (LY.lt (by simp only [LY_si, LY_sj]; exact L0) (by decide)) (LY.k1262 (by simp only [LY_si, LY_sj]; exact L0)) (by decide) rfl (LY.r1262_48 (by simp only [LY_si, LY_sj]; exact L0))) ?_
      refine XS.go (s_iloadn rfl rfl rfl) ?_
      refine XS.go (s_ialde rfl (LY.lt (by simp only [LY_si, LY_sj]; exact L0) (by decide)) (LY.k1296 (by simp only [LY_si, LY_sj]; exact L0)) (inLit (LY.n1296 (by simp only [LY_si, LY_sj]; exact L0)) qk7.1 qk7.2 (by decide)) (hi_hsi_na (by decide))) ?_
      refine XS.go (s_iconst (v := 1) rfl rfl) ?_
      refine r_icmp_ne (tgt := 205) rfl rfl (fun qc11 => ?_) (fun qc11 => ?_)
      · rw [if_pos qc11] at hf
        refine XS.go (s_aloadn rfl rfl rfl) ?_
        refine XS.go (s_getr rfl xf12_79 (LY.lt (by simp only [LY_si, LY_sj]; exact L0) (by decide)) (LY.k1262 (by simp only [LY_si, LY_sj]; exact L0)) (by decide) rfl (LY.r1262_35 (by simp only [LY_si, LY_sj]; exact L0))) ?_
        refine XS.go (s_iload rfl rfl) ?_
        refine XS.go (s_aloadn rfl rfl rfl) ?_
        refine XS.go (s_getr rfl xf12_34 (LY.lt (by simp only [LY_si, LY_sj]; exact L0) (by decide)) (LY.k1262 (by simp only [LY_si, LY_sj]; exact L0)) (by decide) rfl (LY.r1262_18 (by simp only [LY_si, LY_sj]; exact L0))) ?_
        refine XS.go (s_iloadn rfl rfl rfl) ?_
        refine XS.go (s_ialde rfl (LY.lt (by simp only [LY_si, LY_sj]; exact L0) (by decide)) (LY.k1271 (by simp only [LY_si, LY_sj]; exact L0)) (inLit (LY.n1271 (by simp only [LY_si, LY_sj]; exact L0)) qk9.1 qk9.2 (by decide)) (hi_hsi_na (by decide))) ?_
        refine XS.go (s_iast rfl (LY.lt (by simp only [LY_si, LY_sj]; exact L0) (by decide)) (LY.k1286 (by simp only [LY_si, LY_sj]; exact L0)) (inLit (LY.n1286 (by simp only [LY_si, LY_sj]; exact L0)) qk10.1 qk10.2 (by decide))) ?_
        exact XR.forget (L2 := [some (.ref 1262), some (.int x1), none, none, none]) ⟨rfl, ⟨rfl, trivial⟩⟩ (kb_m_resolve_218 hK2 (by simp only [LY_si, LY_sj]; exact L0) hf)
      · rw [if_neg qc11] at hf
        refine XS.go (s_aloadn rfl rfl rfl) ?_
        refine XS.go (s_getr rfl xf12_85 (LY.lt (by simp only [LY_si, LY_sj]; exact L0) (by decide)) (LY.k1262 (by simp only [LY_si, LY_sj]; exact L0)) (by decide) rfl (LY.r1262_37 (by simp only [LY_si, LY_sj]; exact L0))) ?_
        refine XS.go (s_iload rfl rfl) ?_
        refine XS.go (s_aloadn rfl rfl rfl) ?_
        refine XS.go (s_getr rfl xf12_34 (LY.lt (by simp only [LY_si, LY_sj]; exact L0) (by decide)) (LY.k1262 (by simp only [LY_si, LY_sj]; exact L0)) (by decide) rfl (LY.r1262_18 (by simp only [LY_si, LY_sj]; exact L0))) ?_
        refine XS.go (s_iloadn rfl rfl rfl) ?_
        refine XS.go (s_ialde rfl (LY.lt (by simp only [LY_si, LY_sj]; exact L0) (by decide)) (LY.k1271 (by simp only [LY_si, LY_sj]; exact L0)) (inLit (LY.n1271 (by simp only [LY_si, LY_sj]; exact L0)) qk9.1 qk9.2 (by decide)) (hi_hsi_na (by decide))) ?_
        refine XS.go (s_iast rfl (LY.lt (by simp only [LY_si, LY_sj]; exact L0) (by decide)) (LY.k1288 (by simp only [LY_si, LY_sj]; exact L0)) (inLit (LY.n1288 (by simp only [LY_si, LY_sj]; exact L0)) qk10.1 qk10.2 (by decide))) ?_
        refine XS.go (s_goto (tgt := 218) rfl rfl) ?_
        exact XR.forget (L2 := [some (.ref 1262), some (.int x1), none, none, none]) ⟨rfl, ⟨rfl, trivial⟩⟩ (kb_m_resolve_218 hK2 (by simp only [LY_si, LY_sj]; exact L0) hf)
    · rw [if_neg qc8] at hf
      refine XS.go (s_iloadn rfl rfl rfl) ?_
      refine XS.go (s_aloadn rfl rfl rfl) ?_
      refine XS.go (s_getie rfl xf12_263 (LY.lt L0 (by decide)) (LY.k1262 L0) (by decide) rfl rfl) ?_
      refine XS.go (s_iconst (v := 1) rfl rfl) ?_
      refine XS.go (s_isub rfl) ?_
      refine r_icmp_ne (tgt := 138) rfl rfl (fun qc12 => ?_) (fun qc12 => ?_)
      · rw [if_pos qc12] at hf
        refine XS.go (s_aloadn rfl rfl rfl) ?_
        refine XS.go (s_getr rfl xf12_104 (LY.lt L0 (by decide)) (LY.k1262 L0) (by decide) rfl (LY.r1262_44 L0)) ?_
        refine XS.go (s_aloadn rfl rfl rfl) ?_
        refine XS.go (s_getr rfl xf12_113 (LY.lt L0 (by decide)) (LY.k1262 L0) (by decide) rfl (LY.r1262_49 L0)) ?_
        refine XS.go (s_iloadn rfl rfl rfl) ?_
        refine XS.go (s_ialde rfl (LY.lt L0 (by decide)) (LY.k1297 L0) (inLit (LY.n1297 L0) qk7.1 qk7.2 (by decide)) rfl) ?_
        refine XS.go (s_aloadn rfl rfl rfl) ?_
        refine XS.go (s_getr rfl xf12_37 (LY.lt L0 (by decide)) (LY.k1262 L0) (by decide) rfl (LY.r1262_19 L0)) ?_
        refine XS.go (s_iloadn rfl rfl rfl) ?_
        by_cases qk13 : 0 ≤ x2 ∧ x2 < nI 40
        rotate_left
        · rw [if_neg qk13] at hf; cases hf
        rw [if_pos qk13] at hf
        refine XS.go (s_ialde rfl (LY.lt L0 (by decide)) (LY.k1272 L0) (inLit (LY.n1272 L0) qk13.1 qk13.2 (by decide)) rfl) ?_
        by_cases qk14 : 0 ≤ (hi h 1297 (Int32.toNatClampNeg x1)) ∧ (hi h 1297 (Int32.toNatClampNeg x1)) < nI 64
        rotate_left
        · rw [if_neg qk14] at hf; cases hf
        rw [if_pos qk14] at hf
        refine XS.go (s_iast rfl (LY.lt L0 (by decide)) (LY.k1294 L0) (inLit (LY.n1294 L0) qk14.1 qk14.2 (by decide))) ?_
        refine XS.go (s_goto (tgt := 218) rfl rfl) ?_
        exact XR.forget (L2 := [some (.ref 1262), some (.int x1), none, none, none]) ⟨rfl, ⟨rfl, trivial⟩⟩ (kb_m_resolve_218 hK2 (by simp only [LY_si, LY_sj]; exact L0) hf)
      · rw [if_neg qc12] at hf
        refine XS.go (s_aloadn rfl rfl rfl) ?_
        refine XS.go (s_aloadn rfl rfl rfl) ?_
        refine XS.go (s_getr rfl xf12_37 (LY.lt L0 (by decide)) (LY.k1262 L0) (by decide) rfl (LY.r1262_19 L0)) ?_
        refine XS.go (s_iloadn rfl rfl rfl) ?_
        by_cases qk15 : 0 ≤ x2 ∧ x2 < nI 40
        rotate_left
        · rw [if_neg qk15] at hf; cases hf
        rw [if_pos qk15] at hf
        refine XS.go (s_ialde rfl (LY.lt L0 (by decide)) (LY.k1272 L0) (inLit (LY.n1272 L0) qk15.1 qk15.2 (by decide)) rfl) ?_
        refine XS.go (s_puti rfl xf12_338 (LY.lt L0 (by decide)) (LY.k1262 L0) (by decide) rfl (Or.inl rfl)) ?_
        refine XS.go (s_goto (tgt := 218) rfl rfl) ?_
        exact XR.forget (L2 := [some (.ref 1262), some (.int x1), none, none, none]) ⟨rfl, ⟨rfl, trivial⟩⟩ (kb_m_resolve_218 hK2 (by simp only [LY_si, LY_sj]; exact L0) hf)
  · rw [if_neg qc6] at hf
    refine XS.go (s_aloadn rfl rfl rfl) ?_
    refine XS.go (s_iconst (v := 5) rfl rfl) ?_
    refine XS.go (s_puti rfl xf12_221 (LY.lt L0 (by decide)) (LY.k1262 L0) (by decide) rfl (Or.inl rfl)) ?_
    refine XS.go (s_aloadn rfl rfl rfl) ?_
    refine XS.go (s_aloadn rfl rfl rfl) ?_
    refine XS.go (s_getr rfl xf12_22 (LY.lt (by simp only [LY_si, LY_sj]; exact L0) (by decide)) (LY.k1262 (by simp only [LY_si, LY_sj]; exact L0)) (by decide) rfl (LY.r1262_9 (by simp only [LY_si, LY_sj]; exact L0))) ?_
    refine XS.go (s_aloadn rfl rfl rfl) ?_
    refine XS.go (s_getr rfl xf12_107 (LY.lt (by simp only [LY_si, LY_sj]; exact L0) (by decide)) (LY.k1262 (by simp only [LY_si, LY_sj]; exact L0)) (by decide) rfl (LY.r1262_47 (by simp only [LY_si, LY_sj]; exact L0))) ?_
    refine XS.go (s_iloadn rfl rfl rfl) ?_
    by_cases qk16 : 0 ≤ x1 ∧ x1 < nI 400
    rotate_left
    · rw [if_neg qk16] at hf; cases hf
    rw [if_pos qk16] at hf
    refine XS.go (s_ialde rfl (LY.lt (by simp only [LY_si, LY_sj]; exact L0) (by decide)) (LY.k1295 (by simp only [LY_si, LY_sj]; exact L0)) (inLit (LY.n1295 (by simp only [LY_si, LY_sj]; exact L0)) qk16.1 qk16.2 (by decide)) (hi_hsi_na (by decide))) ?_
    by_cases qk17 : 0 ≤ (hi h 1295 (Int32.toNatClampNeg x1)) ∧ (hi h 1295 (Int32.toNatClampNeg x1)) < nI 4001
    rotate_left
    · rw [if_neg qk17] at hf; cases hf
    rw [if_pos qk17] at hf
    refine XS.go (s_ialde rfl (LY.lt (by simp only [LY_si, LY_sj]; exact L0) (by decide)) (LY.k1267 (by simp only [LY_si, LY_sj]; exact L0)) (inLit (LY.n1267 (by simp only [LY_si, LY_sj]; exact L0)) qk17.1 qk17.2 (by decide)) (hi_hsi_na (by decide))) ?_
    refine XS.go (s_puti rfl xf12_227 (LY.lt (by simp only [LY_si, LY_sj]; exact L0) (by decide)) (LY.k1262 (by simp only [LY_si, LY_sj]; exact L0)) (by decide) rfl (Or.inl rfl)) ?_
    refine XS.go (s_goto (tgt := 218) rfl rfl) ?_
    exact XR.forget (L2 := [some (.ref 1262), some (.int x1), none, none, none]) ⟨rfl, ⟨rfl, trivial⟩⟩ (kb_m_resolve_218 hK2 (by simp only [LY_si, LY_sj]; exact L0) hf)
def b_m_resolve_76 (K2 : Int32 → XH → Option (Unit × XH)) (x1 : Int32) (x2 : Int32) (h : XH) : Option (Unit × XH) := (b_m_resolve_77 K2 x1 x2 0 h)
set_option maxRecDepth 20000 in
theorem kb_m_resolve_76 {l : Launch} {G : XG} {d : Nat} {K2 : Int32 → XH → Option (Unit × XH)} {x1 : Int32} {x2 : Int32} {h : XH} {r : Unit × XH} (hK2 : ∀ (x1 : Int32) (h : XH), LY h → K2 x1 h = some r → XR l G xEX12_resolve (d + 2) (2, [some (.ref 1262), some (.int x1), none, none, none], [], h) (fun C => ∃ v, xRet xEX12_resolve C v ∧ (C.2.2.2 = r.2 ∧ v = none) ∧ LY r.2)) (L0 : LY h) (hf : b_m_resolve_76 K2 x1 x2 h = some r) : XR l G xEX12_resolve (d + 2) (76, [some (.ref 1262), some (.int x1), some (.int x2), none, none], [], h) (fun C => ∃ v, xRet xEX12_resolve C v ∧ (C.2.2.2 = r.2 ∧ v = none) ∧ LY r.2) := by
  unfold b_m_resolve_76 at hf
  refine XS.go (s_iconst (v := 0) rfl rfl) ?_
  exact XR.forget (L2 := [some (.ref 1262), some (.int x1), some (.int x2), none, none]) ⟨rfl, ⟨rfl, ⟨rfl, trivial⟩⟩⟩ (kb_m_resolve_77 hK2 L0 hf)
def b_m_resolve_72 (K2 : Int32 → XH → Option (Unit × XH)) (x1 : Int32) (x2 : Int32) (h : XH) : Option (Unit × XH) := (b_m_resolve_77 K2 x1 x2 1 h)
set_option maxRecDepth 20000 in
theorem kb_m_resolve_72 {l : Launch} {G : XG} {d : Nat} {K2 : Int32 → XH → Option (Unit × XH)} {x1 : Int32} {x2 : Int32} {h : XH} {r : Unit × XH} (hK2 : ∀ (x1 : Int32) (h : XH), LY h → K2 x1 h = some r → XR l G xEX12_resolve (d + 2) (2, [some (.ref 1262), some (.int x1), none, none, none], [], h) (fun C => ∃ v, xRet xEX12_resolve C v ∧ (C.2.2.2 = r.2 ∧ v = none) ∧ LY r.2)) (L0 : LY h) (hf : b_m_resolve_72 K2 x1 x2 h = some r) : XR l G xEX12_resolve (d + 2) (72, [some (.ref 1262), some (.int x1), some (.int x2), none, none], [], h) (fun C => ∃ v, xRet xEX12_resolve C v ∧ (C.2.2.2 = r.2 ∧ v = none) ∧ LY r.2) := by
  unfold b_m_resolve_72 at hf
  refine XS.go (s_iconst (v := 1) rfl rfl) ?_
  refine XS.go (s_goto (tgt := 77) rfl rfl) ?_
  exact XR.forget (L2 := [some (.ref 1262), some (.int x1), some (.int x2), none, none]) ⟨rfl, ⟨rfl, ⟨rfl, trivial⟩⟩⟩ (kb_m_resolve_77 hK2 L0 hf)
def s_m_resolve_2 (K2 : Int32 → XH → Option (Unit × XH)) (x1 : Int32) (h : XH) : Option (Unit × XH) := (if (hi h 1262 46) ≤ x1 then (b_m_resolve_224 h) else (if ¬ (hi h 1262 14) = 0 then (b_m_resolve_224 h) else (if 0 ≤ x1 ∧ x1 < nI 400 then (match f_m_definition (hi h 1295 (Int32.toNatClampNeg x1)) h with | none => none | some r21 => (if r21.1 = (-1) then (b_m_resolve_76 K2 x1 r21.1 r21.2) else (if 0 ≤ x1 ∧ x1 < nI 400 then (if (hi r21.2 1296 (Int32.toNatClampNeg x1)) = 0 then (b_m_resolve_72 K2 x1 r21.1 r21.2) else (if 0 ≤ r21.1 ∧ r21.1 < nI 40 then (if (hi r21.2 1271 (Int32.toNatClampNeg r21.1)) = 3 then (b_m_resolve_72 K2 x1 r21.1 r21.2) else (if ¬ (hi r21.2 1296 (Int32.toNatClampNeg x1)) = 1 then (b_m_resolve_76 K2 x1 r21.1 r21.2) else (if ¬ (hi r21.2 1271 (Int32.toNatClampNeg r21.1)) = 2 then (b_m_resolve_76 K2 x1 r21.1 r21.2) else (b_m_resolve_72 K2 x1 r21.1 r21.2)))) else none)) else none))) else none)))
set_option maxRecDepth 20000 in
theorem ks_m_resolve_2 {l : Launch} {G : XG} {d : Nat} {K2 : Int32 → XH → Option (Unit × XH)} {x1 : Int32} {h : XH} {r : Unit × XH} (hK2 : ∀ (x1 : Int32) (h : XH), LY h → K2 x1 h = some r → XR l G xEX12_resolve (d + 2) (2, [some (.ref 1262), some (.int x1), none, none, none], [], h) (fun C => ∃ v, xRet xEX12_resolve C v ∧ (C.2.2.2 = r.2 ∧ v = none) ∧ LY r.2)) (L0 : LY h) (hf : s_m_resolve_2 K2 x1 h = some r) : XR l G xEX12_resolve (d + 2) (2, [some (.ref 1262), some (.int x1), none, none, none], [], h) (fun C => ∃ v, xRet xEX12_resolve C v ∧ (C.2.2.2 = r.2 ∧ v = none) ∧ LY r.2) := by
  unfold s_m_resolve_2 at hf
  refine XS.go (s_iloadn rfl rfl rfl) ?_
  refine XS.go (s_aloadn rfl rfl rfl) ?_
  refine XS.go (s_getie rfl xf12_263 (LY.lt L0 (by decide)) (LY.k1262 L0) (by decide) rfl rfl) ?_
  refine r_icmp_ge (tgt := 224) rfl rfl (fun qc18 => ?_) (fun qc18 => ?_)
  · rw [if_pos qc18] at hf
    exact XR.forget (L2 := [some (.ref 1262), none, none, none, none]) ⟨rfl, trivial⟩ (kb_m_resolve_224 L0 hf)
  · rw [if_neg qc18] at hf
    refine XS.go (s_aloadn rfl rfl rfl) ?_
    refine XS.go (s_getie rfl xf12_221 (LY.lt L0 (by decide)) (LY.k1262 L0) (by decide) rfl rfl) ?_
    refine r_if_ne (tgt := 224) rfl rfl (fun qc19 => ?_) (fun qc19 => ?_)
    · rw [if_pos qc19] at hf
      exact XR.forget (L2 := [some (.ref 1262), none, none, none, none]) ⟨rfl, trivial⟩ (kb_m_resolve_224 L0 hf)
    · rw [if_neg qc19] at hf
      refine XS.go (s_aloadn rfl rfl rfl) ?_
      refine XS.go (s_aloadn rfl rfl rfl) ?_
      refine XS.go (s_getr rfl xf12_107 (LY.lt L0 (by decide)) (LY.k1262 L0) (by decide) rfl (LY.r1262_47 L0)) ?_
      refine XS.go (s_iloadn rfl rfl rfl) ?_
      by_cases qk20 : 0 ≤ x1 ∧ x1 < nI 400
      rotate_left
      · rw [if_neg qk20] at hf; cases hf
      rw [if_pos qk20] at hf
      refine XS.go (s_ialde rfl (LY.lt L0 (by decide)) (LY.k1295 L0) (inLit (LY.n1295 L0) qk20.1 qk20.2 (by decide)) rfl) ?_
      rcases e22 : f_m_definition (hi h 1295 (Int32.toNatClampNeg x1)) h with _ | r21
      · rw [e22] at hf; cases hf
      rw [e22] at hf; dsimp only at hf
      refine r_callv rfl xvX12_definition xm12_289 (kf_m_definition (d := d) L0 e22) (LY.lt L0 (by decide)) (LY.k1262 L0) (by decide) rfl rfl (by omega) (by decide) (Nat.le_of_ble_eq_true rfl) ?_
      rintro _ _ ⟨⟨rfl, rfl⟩, L23⟩
      refine XS.go (s_istoren rfl rfl (Nat.le_of_ble_eq_true rfl)) ?_
      refine XS.go (s_iloadn rfl rfl rfl) ?_
      refine XS.go (s_iconst (v := (-1)) rfl rfl) ?_
      refine r_icmp_eq (tgt := 76) rfl rfl (fun qc24 => ?_) (fun qc24 => ?_)
      · rw [if_pos qc24] at hf
        exact XR.forget (L2 := [some (.ref 1262), some (.int x1), some (.int r21.1), none, none]) ⟨rfl, ⟨rfl, ⟨rfl, trivial⟩⟩⟩ (kb_m_resolve_76 hK2 L23 hf)
      · rw [if_neg qc24] at hf
        refine XS.go (s_aloadn rfl rfl rfl) ?_
        refine XS.go (s_getr rfl xf12_110 (LY.lt L23 (by decide)) (LY.k1262 L23) (by decide) rfl (LY.r1262_48 L23)) ?_
        refine XS.go (s_iloadn rfl rfl rfl) ?_
        by_cases qk25 : 0 ≤ x1 ∧ x1 < nI 400
        rotate_left
        · rw [if_neg qk25] at hf; cases hf
        rw [if_pos qk25] at hf
        refine XS.go (s_ialde rfl (LY.lt L23 (by decide)) (LY.k1296 L23) (inLit (LY.n1296 L23) qk25.1 qk25.2 (by decide)) rfl) ?_
        refine r_if_eq (tgt := 72) rfl rfl (fun qc26 => ?_) (fun qc26 => ?_)
        · rw [if_pos qc26] at hf
          exact XR.forget (L2 := [some (.ref 1262), some (.int x1), some (.int r21.1), none, none]) ⟨rfl, ⟨rfl, ⟨rfl, trivial⟩⟩⟩ (kb_m_resolve_72 hK2 L23 hf)
        · rw [if_neg qc26] at hf
          refine XS.go (s_aloadn rfl rfl rfl) ?_
          refine XS.go (s_getr rfl xf12_34 (LY.lt L23 (by decide)) (LY.k1262 L23) (by decide) rfl (LY.r1262_18 L23)) ?_
          refine XS.go (s_iloadn rfl rfl rfl) ?_
          by_cases qk27 : 0 ≤ r21.1 ∧ r21.1 < nI 40
          rotate_left
          · rw [if_neg qk27] at hf; cases hf
          rw [if_pos qk27] at hf
          refine XS.go (s_ialde rfl (LY.lt L23 (by decide)) (LY.k1271 L23) (inLit (LY.n1271 L23) qk27.1 qk27.2 (by decide)) rfl) ?_
          refine XS.go (s_iconst (v := 3) rfl rfl) ?_
          refine r_icmp_eq (tgt := 72) rfl rfl (fun qc28 => ?_) (fun qc28 => ?_)
          · rw [if_pos qc28] at hf
            exact XR.forget (L2 := [some (.ref 1262), some (.int x1), some (.int r21.1), none, none]) ⟨rfl, ⟨rfl, ⟨rfl, trivial⟩⟩⟩ (kb_m_resolve_72 hK2 L23 hf)
          · rw [if_neg qc28] at hf
            refine XS.go (s_aloadn rfl rfl rfl) ?_
            refine XS.go (s_getr rfl xf12_110 (LY.lt L23 (by decide)) (LY.k1262 L23) (by decide) rfl (LY.r1262_48 L23)) ?_
            refine XS.go (s_iloadn rfl rfl rfl) ?_
            refine XS.go (s_ialde rfl (LY.lt L23 (by decide)) (LY.k1296 L23) (inLit (LY.n1296 L23) qk25.1 qk25.2 (by decide)) rfl) ?_
            refine XS.go (s_iconst (v := 1) rfl rfl) ?_
            refine r_icmp_ne (tgt := 76) rfl rfl (fun qc29 => ?_) (fun qc29 => ?_)
            · rw [if_pos qc29] at hf
              exact XR.forget (L2 := [some (.ref 1262), some (.int x1), some (.int r21.1), none, none]) ⟨rfl, ⟨rfl, ⟨rfl, trivial⟩⟩⟩ (kb_m_resolve_76 hK2 L23 hf)
            · rw [if_neg qc29] at hf
              refine XS.go (s_aloadn rfl rfl rfl) ?_
              refine XS.go (s_getr rfl xf12_34 (LY.lt L23 (by decide)) (LY.k1262 L23) (by decide) rfl (LY.r1262_18 L23)) ?_
              refine XS.go (s_iloadn rfl rfl rfl) ?_
              refine XS.go (s_ialde rfl (LY.lt L23 (by decide)) (LY.k1271 L23) (inLit (LY.n1271 L23) qk27.1 qk27.2 (by decide)) rfl) ?_
              refine XS.go (s_iconst (v := 2) rfl rfl) ?_
              refine r_icmp_ne (tgt := 76) rfl rfl (fun qc30 => ?_) (fun qc30 => ?_)
              · rw [if_pos qc30] at hf
                exact XR.forget (L2 := [some (.ref 1262), some (.int x1), some (.int r21.1), none, none]) ⟨rfl, ⟨rfl, ⟨rfl, trivial⟩⟩⟩ (kb_m_resolve_76 hK2 L23 hf)
              · rw [if_neg qc30] at hf
                exact XR.forget (L2 := [some (.ref 1262), some (.int x1), some (.int r21.1), none, none]) ⟨rfl, ⟨rfl, ⟨rfl, trivial⟩⟩⟩ (kb_m_resolve_72 hK2 L23 hf)
def b_m_resolve_2 : Nat → Int32 → XH → Option (Unit × XH)
  | 0, _, _ => none
  | n + 1, x1, h => s_m_resolve_2 (b_m_resolve_2 n) x1 h
theorem kb_m_resolve_2 {l : Launch} {G : XG} {d : Nat} {n : Nat} {x1 : Int32} {h : XH} {r : Unit × XH} (L0 : LY h) (hf : b_m_resolve_2 n x1 h = some r) : XR l G xEX12_resolve (d + 2) (2, [some (.ref 1262), some (.int x1), none, none, none], [], h) (fun C => ∃ v, xRet xEX12_resolve C v ∧ (C.2.2.2 = r.2 ∧ v = none) ∧ LY r.2) := by
  induction n generalizing x1 h with
  | zero => cases hf
  | succ n ih => exact ks_m_resolve_2 (fun x1 h L0 hf => ih (h := h) (x1 := x1) L0 hf) L0 hf
def f_m_resolve (h : XH) : Option (Unit × XH) := (b_m_resolve_2 100000 0 h)
set_option maxRecDepth 20000 in
theorem kf_m_resolve {l : Launch} {G : XG} {d : Nat} {h : XH} {r : Unit × XH} (L0 : LY h) (hf : f_m_resolve h = some r) : XC l G xEX12_resolve (d + 2) [.ref 1262] h (fun v h2 => (h2 = r.2 ∧ v = none) ∧ LY r.2) := by
  refine XC.virt xvX12_resolve (Nat.le_of_ble_eq_true rfl) ?_
  unfold f_m_resolve at hf
  refine XS.go (s_iconst (v := 0) rfl rfl) ?_
  refine XS.go (s_istoren rfl rfl (Nat.le_of_ble_eq_true rfl)) ?_
  exact XR.forget (L2 := [some (.ref 1262), some (.int 0), none, none, none]) ⟨rfl, ⟨rfl, trivial⟩⟩ (kb_m_resolve_2 L0 hf)
