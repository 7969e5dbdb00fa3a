/-! Methods as functions of the heap -/
def b_j_isField_55 (KT : Nat → Int32 → Int32 → Int32 → XH → Option (Int32 × XH)) (h : XH) : Option (Int32 × XH) := (some (1, h))
set_option maxRecDepth 20000 in
theorem kb_j_isField_55 {l : Launch} {G : XG} {d : Nat} {KT : Nat → Int32 → Int32 → Int32 → XH → Option (Int32 × XH)} {h : XH} {r : Int32 × XH} (hKT : ∀ (t : Nat) (a0 : Int32) (a1 : Int32) (a2 : Int32) (h : XH) (r : Int32 × XH), LY h → KT t a0 a1 a2 h = some r → XC l G xEX5_isTable d [.ref t, .int a0, .int a1, .int a2] h (fun v h2 => (h2 = r.2 ∧ v = some (.int r.1)) ∧ LY r.2)) (L0 : LY h) (hf : b_j_isField_55 KT h = some r) : XR l G xEX5_isField (d + 4) (55, [none, none, none, none, none, none, none, none], [], h) (fun C => ∃ v, xRet xEX5_isField C v ∧ (C.2.2.2 = r.2 ∧ v = some (.int r.1)) ∧ LY r.2) := by
  unfold b_j_isField_55 at hf
  refine XS.go (s_iconst (v := 1) rfl rfl) ?_
  refine XS.go (s_goto (tgt := 60) rfl rfl) ?_
  cases hf
  exact XR.retz rfl rfl (by decide) (fun hret => ⟨_, hret, ⟨rfl, rfl⟩, L0⟩)
def f_j_isField (KT : Nat → Int32 → Int32 → Int32 → XH → Option (Int32 × XH)) (t : Nat) (a0 : Int32) (a1 : Int32) (a2 : Nat) (a3 : Int32) (h : XH) : Option (Int32 × XH) := (if a2 < hz h ∧ hk h a2 = 3 then (if ¬ (hi h a2 3) = 4 then (if t < hz h ∧ hk h t = 5 then (match hr h t 1 with | none => none | some b4 => (if b4 < hz h ∧ hk h b4 = 1 then (match f_b_slotNumber b4 a1 (hi h a2 6) h with | none => none | some r7 => (if ¬ r7.1 = 0 then (if t < hz r7.2 ∧ hk r7.2 t = 5 then (match hr r7.2 t 0 with | none => none | some b12 => (if a2 < hz r7.2 ∧ hk r7.2 a2 = 3 then (if b12 < hz r7.2 ∧ hk r7.2 b12 = 9 then (match f_s_bytesOf b12 (hi r7.2 a2 3) (hi r7.2 a2 4) r7.2 with | none => none | some r16 => (if t < hz r16.2 ∧ hk r16.2 t = 5 then (match hr r16.2 t 0 with | none => none | some b20 => (if a2 < hz r16.2 ∧ hk r16.2 a2 = 3 then (if b20 < hz r16.2 ∧ hk r16.2 b20 = 9 then (match f_s_alignmentOf b20 (hi r16.2 a2 3) (hi r16.2 a2 4) r16.2 with | none => none | some r24 => (if a2 < hz r24.2 ∧ hk r24.2 a2 = 3 then (if t < hz r24.2 ∧ hk r24.2 t = 5 then (match f_j_liesWell t a0 a1 (hi r24.2 a2 6) r16.1 r24.1 r24.2 with | none => none | some r29 => (if ¬ r29.1 = 0 then (if a2 < hz r29.2 ∧ hk r29.2 a2 = 3 then (if ¬ (hi r29.2 a2 3) = 5 then (if t < hz r29.2 ∧ hk r29.2 t = 5 then (match f_j_isContent KT t (a0 + r7.1) (hi r29.2 a2 3) (hi r29.2 a2 4) a3 r29.2 with | none => none | some r36 => (if r36.1 = 0 ∨ r36.1 = 1 then (some (r36.1, r36.2)) else none)) else none) else (if t < hz r29.2 ∧ hk r29.2 t = 5 then (match f_j_isVector KT t (a0 + r7.1) (hi r29.2 a2 5) (hi r29.2 a2 4) a3 r29.2 with | none => none | some r41 => (if r41.1 = 0 ∨ r41.1 = 1 then (some (r41.1, r41.2)) else none)) else none)) else none) else (some (0, r29.2)))) else none) else none)) else none) else none)) else none)) else none) else none)) else none) else (if a2 < hz r7.2 ∧ hk r7.2 a2 = 3 then (if (hi r7.2 a2 7) = 0 then (b_j_isField_55 KT r7.2) else (if t < hz r7.2 ∧ hk r7.2 t = 5 then (match f_j_wrong t 9 (Int32.toInt64 a0) r7.2 with | none => none | some r48 => (if r48.1 = 0 then (some (0, r48.2)) else (b_j_isField_55 KT r48.2))) else none)) else none))) else none)) else none) else (if t < hz h ∧ hk h t = 5 then (match f_j_isUnion KT t a0 a1 a2 a3 h with | none => none | some r53 => (if r53.1 = 0 ∨ r53.1 = 1 then (some (r53.1, r53.2)) else none)) else none)) else none)
set_option maxRecDepth 20000 in
theorem kf_j_isField {l : Launch} {G : XG} {d : Nat} {KT : Nat → Int32 → Int32 → Int32 → XH → Option (Int32 × XH)} {t : Nat} {a0 : Int32} {a1 : Int32} {a2 : Nat} {a3 : Int32} {h : XH} {r : Int32 × XH} (hKT : ∀ (t : Nat) (a0 : Int32) (a1 : Int32) (a2 : Int32) (h : XH) (r : Int32 × XH), LY h → KT t a0 a1 a2 h = some r → XC l G xEX5_isTable d [.ref t, .int a0, .int a1, .int a2] h (fun v h2 => (h2 = r.2 ∧ v = some (.int r.1)) ∧ LY r.2)) (L0 : LY h) (hf : f_j_isField KT t a0 a1 a2 a3 h = some r) : XC l G xEX5_isField (d + 4) [.ref t, .int a0, .int a1, .ref a2, .int a3] h (fun v h2 => (h2 = r.2 ∧ v = some (.int r.1)) ∧ LY r.2) := by
  refine XC.virt xvX5_isField (Nat.le_of_ble_eq_true rfl) ?_
  unfold f_j_isField at hf
  refine XS.go (s_aloadn rfl rfl rfl) ?_
  by_cases qk1 : a2 < hz h ∧ hk h a2 = 3
  rotate_left
  · rw [if_neg qk1] at hf; cases hf
  rw [if_pos qk1] at hf
  refine XS.go (s_getie rfl xf5_95 qk1.1 qk1.2 (by decide) rfl rfl) ?_
  refine XS.go (s_iconst (v := 4) rfl rfl) ?_
  refine r_icmp_ne (tgt := 18) rfl rfl (fun qc2 => ?_) (fun qc2 => ?_)
  · rw [if_pos qc2] at hf
    refine XS.go (s_aloadn rfl rfl rfl) ?_
    by_cases qk3 : t < hz h ∧ hk h t = 5
    rotate_left
    · rw [if_neg qk3] at hf; cases hf
    rw [if_pos qk3] at hf
    rcases qr5 : hr h t 1 with _ | b4
    · rw [qr5] at hf; cases hf
    rw [qr5] at hf; dsimp only at hf
    refine XS.go (s_getr rfl xf5_25 qk3.1 qk3.2 (by decide) rfl qr5) ?_
    refine XS.go (s_iloadn rfl rfl rfl) ?_
    refine XS.go (s_aloadn rfl rfl rfl) ?_
    refine XS.go (s_getie rfl xf5_103 qk1.1 qk1.2 (by decide) rfl rfl) ?_
    by_cases qk6 : b4 < hz h ∧ hk h b4 = 1
    rotate_left
    · rw [if_neg qk6] at hf; cases hf
    rw [if_pos qk6] at hf
    rcases e8 : f_b_slotNumber b4 a1 (hi h a2 6) h with _ | r7
    · rw [e8] at hf; cases hf
    rw [e8] at hf; dsimp only at hf
    refine r_callv rfl xvX1_slotNumber xm5_106 (kf_b_slotNumber (d := d) L0 e8) qk6.1 qk6.2 (by decide) rfl rfl (by omega) (by decide) (Nat.le_of_ble_eq_true rfl) ?_
    rintro _ _ ⟨⟨rfl, rfl⟩, L9⟩
    refine XS.go (s_istore rfl (Nat.le_of_ble_eq_true rfl)) ?_
    refine XS.go (s_iload rfl rfl) ?_
    refine r_if_ne (tgt := 61) rfl rfl (fun qc10 => ?_) (fun qc10 => ?_)
    · rw [if_pos qc10] at hf
      refine XS.go (s_aloadn rfl rfl rfl) ?_
      by_cases qk11 : t < hz r7.2 ∧ hk r7.2 t = 5
      rotate_left
      · rw [if_neg qk11] at hf; cases hf
      rw [if_pos qk11] at hf
      rcases qr13 : hr r7.2 t 0 with _ | b12
      · rw [qr13] at hf; cases hf
      rw [qr13] at hf; dsimp only at hf
      refine XS.go (s_getr rfl xf5_21 qk11.1 qk11.2 (by decide) rfl qr13) ?_
      refine XS.go (s_aloadn rfl rfl rfl) ?_
      by_cases qk14 : a2 < hz r7.2 ∧ hk r7.2 a2 = 3
      rotate_left
      · rw [if_neg qk14] at hf; cases hf
      rw [if_pos qk14] at hf
      refine XS.go (s_getie rfl xf5_95 qk14.1 qk14.2 (by decide) rfl rfl) ?_
      refine XS.go (s_aloadn rfl rfl rfl) ?_
      refine XS.go (s_getie rfl xf5_114 qk14.1 qk14.2 (by decide) rfl rfl) ?_
      by_cases qk15 : b12 < hz r7.2 ∧ hk r7.2 b12 = 9
      rotate_left
      · rw [if_neg qk15] at hf; cases hf
      rw [if_pos qk15] at hf
      rcases e17 : f_s_bytesOf b12 (hi r7.2 a2 3) (hi r7.2 a2 4) r7.2 with _ | r16
      · rw [e17] at hf; cases hf
      rw [e17] at hf; dsimp only at hf
      refine r_callv rfl xvX9_bytesOf xm5_116 (kf_s_bytesOf (d := d) L9 e17) qk15.1 qk15.2 (by decide) rfl rfl (by omega) (by decide) (Nat.le_of_ble_eq_true rfl) ?_
      rintro _ _ ⟨⟨rfl, rfl⟩, L18⟩
      refine XS.go (s_istore rfl (Nat.le_of_ble_eq_true rfl)) ?_
      refine XS.go (s_aloadn rfl rfl rfl) ?_
      by_cases qk19 : t < hz r16.2 ∧ hk r16.2 t = 5
      rotate_left
      · rw [if_neg qk19] at hf; cases hf
      rw [if_pos qk19] at hf
      rcases qr21 : hr r16.2 t 0 with _ | b20
      · rw [qr21] at hf; cases hf
      rw [qr21] at hf; dsimp only at hf
      refine XS.go (s_getr rfl xf5_21 qk19.1 qk19.2 (by decide) rfl qr21) ?_
      refine XS.go (s_aloadn rfl rfl rfl) ?_
      by_cases qk22 : a2 < hz r16.2 ∧ hk r16.2 a2 = 3
      rotate_left
      · rw [if_neg qk22] at hf; cases hf
      rw [if_pos qk22] at hf
      refine XS.go (s_getie rfl xf5_95 qk22.1 qk22.2 (by decide) rfl rfl) ?_
      refine XS.go (s_aloadn rfl rfl rfl) ?_
      refine XS.go (s_getie rfl xf5_114 qk22.1 qk22.2 (by decide) rfl rfl) ?_
      by_cases qk23 : b20 < hz r16.2 ∧ hk r16.2 b20 = 9
      rotate_left
      · rw [if_neg qk23] at hf; cases hf
      rw [if_pos qk23] at hf
      rcases e25 : f_s_alignmentOf b20 (hi r16.2 a2 3) (hi r16.2 a2 4) r16.2 with _ | r24
      · rw [e25] at hf; cases hf
      rw [e25] at hf; dsimp only at hf
      refine r_callv rfl xvX9_alignmentOf xm5_119 (kf_s_alignmentOf (d := d) L18 e25) qk23.1 qk23.2 (by decide) rfl rfl (by omega) (by decide) (Nat.le_of_ble_eq_true rfl) ?_
      rintro _ _ ⟨⟨rfl, rfl⟩, L26⟩
      refine XS.go (s_istore rfl (Nat.le_of_ble_eq_true rfl)) ?_
      refine XS.go (s_aloadn rfl rfl rfl) ?_
      refine XS.go (s_iloadn rfl rfl rfl) ?_
      refine XS.go (s_iloadn rfl rfl rfl) ?_
      refine XS.go (s_aloadn rfl rfl rfl) ?_
      by_cases qk27 : a2 < hz r24.2 ∧ hk r24.2 a2 = 3
      rotate_left
      · rw [if_neg qk27] at hf; cases hf
      rw [if_pos qk27] at hf
      refine XS.go (s_getie rfl xf5_103 qk27.1 qk27.2 (by decide) rfl rfl) ?_
      refine XS.go (s_iload rfl rfl) ?_
      refine XS.go (s_iload rfl rfl) ?_
      by_cases qk28 : t < hz r24.2 ∧ hk r24.2 t = 5
      rotate_left
      · rw [if_neg qk28] at hf; cases hf
      rw [if_pos qk28] at hf
      rcases e30 : f_j_liesWell t a0 a1 (hi r24.2 a2 6) r16.1 r24.1 r24.2 with _ | r29
      · rw [e30] at hf; cases hf
      rw [e30] at hf; dsimp only at hf
      refine r_callv rfl xvX5_liesWell xm5_122 (kf_j_liesWell (d := d) L26 e30) qk28.1 qk28.2 (by decide) rfl rfl (by omega) (by decide) (Nat.le_of_ble_eq_true rfl) ?_
      rintro _ _ ⟨⟨rfl, rfl⟩, L31⟩
      refine r_if_ne (tgt := 114) rfl rfl (fun qc32 => ?_) (fun qc32 => ?_)
      · rw [if_pos qc32] at hf
        refine XS.go (s_aloadn rfl rfl rfl) ?_
        by_cases qk33 : a2 < hz r29.2 ∧ hk r29.2 a2 = 3
        rotate_left
        · rw [if_neg qk33] at hf; cases hf
        rw [if_pos qk33] at hf
        refine XS.go (s_getie rfl xf5_95 qk33.1 qk33.2 (by decide) rfl rfl) ?_
        refine XS.go (s_iconst (v := 5) rfl rfl) ?_
        refine r_icmp_ne (tgt := 141) rfl rfl (fun qc34 => ?_) (fun qc34 => ?_)
        · rw [if_pos qc34] at hf
          refine XS.go (s_aloadn rfl rfl rfl) ?_
          refine XS.go (s_iloadn rfl rfl rfl) ?_
          refine XS.go (s_iload rfl rfl) ?_
          refine XS.go (s_iadd rfl) ?_
          refine XS.go (s_aloadn rfl rfl rfl) ?_
          refine XS.go (s_getie rfl xf5_95 qk33.1 qk33.2 (by decide) rfl rfl) ?_
          refine XS.go (s_aloadn rfl rfl rfl) ?_
          refine XS.go (s_getie rfl xf5_114 qk33.1 qk33.2 (by decide) rfl rfl) ?_
          refine XS.go (s_iload rfl rfl) ?_
          by_cases qk35 : t < hz r29.2 ∧ hk r29.2 t = 5
          rotate_left
          · rw [if_neg qk35] at hf; cases hf
          rw [if_pos qk35] at hf
          rcases e37 : f_j_isContent KT t (a0 + r7.1) (hi r29.2 a2 3) (hi r29.2 a2 4) a3 r29.2 with _ | r36
          · rw [e37] at hf; cases hf
          rw [e37] at hf; dsimp only at hf
          refine r_callv rfl xvX5_isContent xm5_133 (kf_j_isContent (d := d) hKT L31 e37) qk35.1 qk35.2 (by decide) rfl rfl (by omega) (by decide) (Nat.le_of_ble_eq_true rfl) ?_
          rintro _ _ ⟨⟨rfl, rfl⟩, L38⟩
          by_cases qk39 : r36.1 = 0 ∨ r36.1 = 1
          rotate_left
          · rw [if_neg qk39] at hf; cases hf
          rw [if_pos qk39] at hf
          cases hf
          exact XR.retz rfl rfl qk39 (fun hret => ⟨_, hret, ⟨rfl, rfl⟩, L38⟩)
        · rw [if_neg qc34] at hf
          refine XS.go (s_aloadn rfl rfl rfl) ?_
          refine XS.go (s_iloadn rfl rfl rfl) ?_
          refine XS.go (s_iload rfl rfl) ?_
          refine XS.go (s_iadd rfl) ?_
          refine XS.go (s_aloadn rfl rfl rfl) ?_
          refine XS.go (s_getie rfl xf5_126 qk33.1 qk33.2 (by decide) rfl rfl) ?_
          refine XS.go (s_aloadn rfl rfl rfl) ?_
          refine XS.go (s_getie rfl xf5_114 qk33.1 qk33.2 (by decide) rfl rfl) ?_
          refine XS.go (s_iload rfl rfl) ?_
          by_cases qk40 : t < hz r29.2 ∧ hk r29.2 t = 5
          rotate_left
          · rw [if_neg qk40] at hf; cases hf
          rw [if_pos qk40] at hf
          rcases e42 : f_j_isVector KT t (a0 + r7.1) (hi r29.2 a2 5) (hi r29.2 a2 4) a3 r29.2 with _ | r41
          · rw [e42] at hf; cases hf
          rw [e42] at hf; dsimp only at hf
          refine r_callv rfl xvX5_isVector xm5_129 (kf_j_isVector (d := d) hKT L31 e42) qk40.1 qk40.2 (by decide) rfl rfl (by omega) (by decide) (Nat.le_of_ble_eq_true rfl) ?_
          rintro _ _ ⟨⟨rfl, rfl⟩, L43⟩
          by_cases qk44 : r41.1 = 0 ∨ r41.1 = 1
          rotate_left
          · rw [if_neg qk44] at hf; cases hf
          rw [if_pos qk44] at hf
          cases hf
          exact XR.retz rfl rfl qk44 (fun hret => ⟨_, hret, ⟨rfl, rfl⟩, L43⟩)
      · rw [if_neg qc32] at hf
        refine XS.go (s_iconst (v := 0) rfl rfl) ?_
        cases hf
        exact XR.retz rfl rfl (by decide) (fun hret => ⟨_, hret, ⟨rfl, rfl⟩, L31⟩)
    · rw [if_neg qc10] at hf
      refine XS.go (s_aloadn rfl rfl rfl) ?_
      by_cases qk45 : a2 < hz r7.2 ∧ hk r7.2 a2 = 3
      rotate_left
      · rw [if_neg qk45] at hf; cases hf
      rw [if_pos qk45] at hf
      refine XS.go (s_getze rfl xf5_110 qk45.1 qk45.2 (by decide) rfl rfl) ?_
      refine r_if_eq (tgt := 55) rfl rfl (fun qc46 => ?_) (fun qc46 => ?_)
      · rw [if_pos qc46] at hf
        exact XR.forget (L2 := [none, none, none, none, none, none, none, none]) trivial (kb_j_isField_55 hKT L9 hf)
      · rw [if_neg qc46] at hf
        refine XS.go (s_aloadn rfl rfl rfl) ?_
        refine XS.go (s_bipush (v := 9) rfl rfl) ?_
        refine XS.go (s_iloadn rfl rfl rfl) ?_
        refine XS.go (s_i2l rfl) ?_
        by_cases qk47 : t < hz r7.2 ∧ hk r7.2 t = 5
        rotate_left
        · rw [if_neg qk47] at hf; cases hf
        rw [if_pos qk47] at hf
        rcases e49 : f_j_wrong t 9 (Int32.toInt64 a0) r7.2 with _ | r48
        · rw [e49] at hf; cases hf
        rw [e49] at hf; dsimp only at hf
        refine r_callv rfl xvX5_wrong xm5_32 (kf_j_wrong (d := d) L9 e49) qk47.1 qk47.2 (by decide) rfl rfl (by omega) (by decide) (Nat.le_of_ble_eq_true rfl) ?_
        rintro _ _ ⟨⟨rfl, rfl⟩, L50⟩
        refine r_if_eq (tgt := 59) rfl rfl (fun qc51 => ?_) (fun qc51 => ?_)
        · rw [if_pos qc51] at hf
          refine XS.go (s_iconst (v := 0) rfl rfl) ?_
          cases hf
          exact XR.retz rfl rfl (by decide) (fun hret => ⟨_, hret, ⟨rfl, rfl⟩, L50⟩)
        · rw [if_neg qc51] at hf
          exact XR.forget (L2 := [none, none, none, none, none, none, none, none]) trivial (kb_j_isField_55 hKT L50 hf)
  · rw [if_neg qc2] at hf
    refine XS.go (s_aloadn rfl rfl rfl) ?_
    refine XS.go (s_iloadn rfl rfl rfl) ?_
    refine XS.go (s_iloadn rfl rfl rfl) ?_
    refine XS.go (s_aloadn rfl rfl rfl) ?_
    refine XS.go (s_iload rfl rfl) ?_
    by_cases qk52 : t < hz h ∧ hk h t = 5
    rotate_left
    · rw [if_neg qk52] at hf; cases hf
    rw [if_pos qk52] at hf
    rcases e54 : f_j_isUnion KT t a0 a1 a2 a3 h with _ | r53
    · rw [e54] at hf; cases hf
    rw [e54] at hf; dsimp only at hf
    refine r_callv rfl xvX5_isUnion xm5_100 (kf_j_isUnion (d := d) hKT L0 e54) qk52.1 qk52.2 (by decide) rfl rfl (by omega) (by decide) (Nat.le_of_ble_eq_true rfl) ?_
    rintro _ _ ⟨⟨rfl, rfl⟩, L55⟩
    by_cases qk56 : r53.1 = 0 ∨ r53.1 = 1
    rotate_left
    · rw [if_neg qk56] at hf; cases hf
    rw [if_pos qk56] at hf
    cases hf
    exact XR.retz rfl rfl qk56 (fun hret => ⟨_, hret, ⟨rfl, rfl⟩, L55⟩)
def b_j_isTable_146 (KT : Nat → Int32 → Int32 → Int32 → XH → Option (Int32 × XH)) (K106 : Nat → Int32 → Int32 → Option Nat → Int32 → Int32 → XH → Option (Int32 × XH)) (x0 : Nat) (x3 : Int32) (x4 : Int32) (x5 : Option Nat) (x6 : Int32) (x7 : Int32) (h : XH) : Option (Int32 × XH) := (K106 x0 x3 x4 x5 x6 (x7 + 1) h)
set_option maxRecDepth 20000 in
theorem kb_j_isTable_146 {l : Launch} {G : XG} {d : Nat} {KT : Nat → Int32 → Int32 → Int32 → XH → Option (Int32 × XH)} {K106 : Nat → Int32 → Int32 → Option Nat → Int32 → Int32 → XH → Option (Int32 × XH)} {x0 : Nat} {x3 : Int32} {x4 : Int32} {x5 : Option Nat} {x6 : Int32} {x7 : Int32} {h : XH} {r : Int32 × XH} (hKT : ∀ (t : Nat) (a0 : Int32) (a1 : Int32) (a2 : Int32) (h : XH) (r : Int32 × XH), LY h → KT t a0 a1 a2 h = some r → XC l G xEX5_isTable d [.ref t, .int a0, .int a1, .int a2] h (fun v h2 => (h2 = r.2 ∧ v = some (.int r.1)) ∧ LY r.2)) (hK106 : ∀ (x0 : Nat) (x3 : Int32) (x4 : Int32) (x5 : Option Nat) (x6 : Int32) (x7 : Int32) (h : XH), LY h → K106 x0 x3 x4 x5 x6 x7 h = some r → XR l G xEX5_isTable (d + 5) (106, [some (.ref x0), none, none, some (.int x3), some (.int x4), some (va_rf x5), some (.int x6), some (.int x7), none], [], h) (fun C => ∃ v, xRet xEX5_isTable C v ∧ (C.2.2.2 = r.2 ∧ v = some (.int r.1)) ∧ LY r.2)) (L0 : LY h) (hf : b_j_isTable_146 KT K106 x0 x3 x4 x5 x6 x7 h = some r) : XR l G xEX5_isTable (d + 5) (146, [some (.ref x0), none, none, some (.int x3), some (.int x4), some (va_rf x5), some (.int x6), some (.int x7), none], [], h) (fun C => ∃ v, xRet xEX5_isTable C v ∧ (C.2.2.2 = r.2 ∧ v = some (.int r.1)) ∧ LY r.2) := by
  unfold b_j_isTable_146 at hf
  refine XS.go (s_inc rfl rfl (Nat.le_of_ble_eq_true rfl)) ?_
  refine XS.go (s_goto (tgt := 106) rfl rfl) ?_
  exact XR.forget (L2 := [some (.ref x0), none, none, some (.int x3), some (.int x4), some (va_rf x5), some (.int x6), some (.int (x7 + 1)), none]) ⟨rfl, ⟨rfl, ⟨rfl, ⟨rfl, ⟨rfl, ⟨rfl, trivial⟩⟩⟩⟩⟩⟩ (hK106 x0 x3 x4 x5 x6 (x7 + 1) _ L0 hf)
def s_j_isTable_106 (KT : Nat → Int32 → Int32 → Int32 → XH → Option (Int32 × XH)) (K106 : Nat → Int32 → Int32 → Option Nat → Int32 → Int32 → XH → Option (Int32 × XH)) (x0 : Nat) (x3 : Int32) (x4 : Int32) (x5 : Option Nat) (x6 : Int32) (x7 : Int32) (h : XH) : Option (Int32 × XH) := (match x5 with | none => none | some b1 => (if b1 < hz h ∧ hk h b1 = 2 then (if (hi h b1 3) ≤ x7 then (some (1, h)) else (match f_d_fieldAt b1 x7 h with | none => none | some r5 => (match r5.1 with | none => (b_j_isTable_146 KT K106 x0 x3 x4 (some b1) x6 x7 r5.2) | some b9 => (if x0 < hz r5.2 ∧ hk r5.2 x0 = 5 then (match f_j_isField KT x0 x4 x6 b9 x3 r5.2 with | none => none | some r11 => (if ¬ r11.1 = 0 then (b_j_isTable_146 KT K106 x0 x3 x4 (some b1) x6 x7 r11.2) else (some (0, r11.2)))) else none)))) else none))
set_option maxRecDepth 20000 in
theorem ks_j_isTable_106 {l : Launch} {G : XG} {d : Nat} {KT : Nat → Int32 → Int32 → Int32 → XH → Option (Int32 × XH)} {K106 : Nat → Int32 → Int32 → Option Nat → Int32 → Int32 → XH → Option (Int32 × XH)} {x0 : Nat} {x3 : Int32} {x4 : Int32} {x5 : Option Nat} {x6 : Int32} {x7 : Int32} {h : XH} {r : Int32 × XH} (hKT : ∀ (t : Nat) (a0 : Int32) (a1 : Int32) (a2 : Int32) (h : XH) (r : Int32 × XH), LY h → KT t a0 a1 a2 h = some r → XC l G xEX5_isTable d [.ref t, .int a0, .int a1, .int a2] h (fun v h2 => (h2 = r.2 ∧ v = some (.int r.1)) ∧ LY r.2)) (hK106 : ∀ (x0 : Nat) (x3 : Int32) (x4 : Int32) (x5 : Option Nat) (x6 : Int32) (x7 : Int32) (h : XH), LY h → K106 x0 x3 x4 x5 x6 x7 h = some r → XR l G xEX5_isTable (d + 5) (106, [some (.ref x0), none, none, some (.int x3), some (.int x4), some (va_rf x5), some (.int x6), some (.int x7), none], [], h) (fun C => ∃ v, xRet xEX5_isTable C v ∧ (C.2.2.2 = r.2 ∧ v = some (.int r.1)) ∧ LY r.2)) (L0 : LY h) (hf : s_j_isTable_106 KT K106 x0 x3 x4 x5 x6 x7 h = some r) : XR l G xEX5_isTable (d + 5) (106, [some (.ref x0), none, none, some (.int x3), some (.int x4), some (va_rf x5), some (.int x6), some (.int x7), none], [], h) (fun C => ∃ v, xRet xEX5_isTable C v ∧ (C.2.2.2 = r.2 ∧ v = some (.int r.1)) ∧ LY r.2) := by
  unfold s_j_isTable_106 at hf
  refine XS.go (s_iload rfl rfl) ?_
  refine XS.go (s_aloadO rfl rfl) ?_
  rcases qo2 : x5 with _ | b1
  · rw [qo2] at hf; cases hf
  rw [qo2] at hf; dsimp only at hf; try rw [qo2]
  by_cases qk3 : b1 < hz h ∧ hk h b1 = 2
  rotate_left
  · rw [if_neg qk3] at hf; cases hf
  rw [if_pos qk3] at hf
  refine XS.go (s_getie rfl xf5_80 qk3.1 qk3.2 (by decide) rfl rfl) ?_
  refine r_icmp_ge (tgt := 152) rfl rfl (fun qc4 => ?_) (fun qc4 => ?_)
  · rw [if_pos qc4] at hf
    refine XS.go (s_iconst (v := 1) rfl rfl) ?_
    cases hf
    exact XR.retz rfl rfl (by decide) (fun hret => ⟨_, hret, ⟨rfl, rfl⟩, L0⟩)
  · rw [if_neg qc4] at hf
    refine XS.go (s_aload rfl rfl) ?_
    refine XS.go (s_iload rfl rfl) ?_
    rcases e6 : f_d_fieldAt b1 x7 h with _ | r5
    · rw [e6] at hf; cases hf
    rw [e6] at hf; dsimp only at hf
    refine r_callv rfl xvX2_fieldAt xm5_85 (kf_d_fieldAt (d := d) L0 e6) qk3.1 qk3.2 (by decide) rfl rfl (by omega) (by decide) (Nat.le_of_ble_eq_true rfl) ?_
    rintro _ _ ⟨⟨rfl, rfl⟩, L7⟩
    refine XS.go (s_astoreO rfl (Nat.le_of_ble_eq_true rfl)) ?_
    refine XS.go (s_aloadO rfl rfl) ?_
    refine r_ifnull (tgt := 146) rfl rfl (fun qn8 => ?_) (fun b9 qn8 => ?_)
    · rw [qn8] at hf; dsimp only at hf; try rw [qn8]
      exact XR.forget (L2 := [some (.ref x0), none, none, some (.int x3), some (.int x4), some (.ref b1), some (.int x6), some (.int x7), none]) ⟨rfl, ⟨rfl, ⟨rfl, ⟨rfl, ⟨rfl, ⟨rfl, trivial⟩⟩⟩⟩⟩⟩ (kb_j_isTable_146 hKT hK106 L7 hf)
    · rw [qn8] at hf; dsimp only at hf; try rw [qn8]
      refine XS.go (s_aloadn rfl rfl rfl) ?_
      refine XS.go (s_iload rfl rfl) ?_
      refine XS.go (s_iload rfl rfl) ?_
      refine XS.go (s_aload rfl rfl) ?_
      refine XS.go (s_iloadn rfl rfl rfl) ?_
      by_cases qk10 : x0 < hz r5.2 ∧ hk r5.2 x0 = 5
      rotate_left
      · rw [if_neg qk10] at hf; cases hf
      rw [if_pos qk10] at hf
      rcases e12 : f_j_isField KT x0 x4 x6 b9 x3 r5.2 with _ | r11
      · rw [e12] at hf; cases hf
      rw [e12] at hf; dsimp only at hf
      refine r_callv rfl xvX5_isField xm5_89 (kf_j_isField (d := d) hKT L7 e12) qk10.1 qk10.2 (by decide) rfl rfl (by omega) (by decide) (Nat.le_of_ble_eq_true rfl) ?_
      rintro _ _ ⟨⟨rfl, rfl⟩, L13⟩
      refine r_if_ne (tgt := 146) rfl rfl (fun qc14 => ?_) (fun qc14 => ?_)
      · rw [if_pos qc14] at hf
        exact XR.forget (L2 := [some (.ref x0), none, none, some (.int x3), some (.int x4), some (.ref b1), some (.int x6), some (.int x7), none]) ⟨rfl, ⟨rfl, ⟨rfl, ⟨rfl, ⟨rfl, ⟨rfl, trivial⟩⟩⟩⟩⟩⟩ (kb_j_isTable_146 hKT hK106 L13 hf)
      · rw [if_neg qc14] at hf
        refine XS.go (s_iconst (v := 0) rfl rfl) ?_
        cases hf
        exact XR.retz rfl rfl (by decide) (fun hret => ⟨_, hret, ⟨rfl, rfl⟩, L13⟩)
def b_j_isTable_106 (KT : Nat → Int32 → Int32 → Int32 → XH → Option (Int32 × XH)) : Nat → Nat → Int32 → Int32 → Option Nat → Int32 → Int32 → XH → Option (Int32 × XH)
  | 0, _, _, _, _, _, _, _ => none
  | n + 1, x0, x3, x4, x5, x6, x7, h => s_j_isTable_106 KT (b_j_isTable_106 KT n) x0 x3 x4 x5 x6 x7 h
theorem kb_j_isTable_106 {l : Launch} {G : XG} {d : Nat} {KT : Nat → Int32 → Int32 → Int32 → XH → Option (Int32 × XH)} {n : Nat} {x0 : Nat} {x3 : Int32} {x4 : Int32} {x5 : Option Nat} {x6 : Int32} {x7 : Int32} {h : XH} {r : Int32 × XH} (hKT : ∀ (t : Nat) (a0 : Int32) (a1 : Int32) (a2 : Int32) (h : XH) (r : Int32 × XH), LY h → KT t a0 a1 a2 h = some r → XC l G xEX5_isTable d [.ref t, .int a0, .int a1, .int a2] h (fun v h2 => (h2 = r.2 ∧ v = some (.int r.1)) ∧ LY r.2)) (L0 : LY h) (hf : b_j_isTable_106 KT n x0 x3 x4 x5 x6 x7 h = some r) : XR l G xEX5_isTable (d + 5) (106, [some (.ref x0), none, none, some (.int x3), some (.int x4), some (va_rf x5), some (.int x6), some (.int x7), none], [], h) (fun C => ∃ v, xRet xEX5_isTable C v ∧ (C.2.2.2 = r.2 ∧ v = some (.int r.1)) ∧ LY r.2) := by
  induction n generalizing x0 x3 x4 x5 x6 x7 h with
  | zero => cases hf
  | succ n ih => exact ks_j_isTable_106 hKT (fun x0 x3 x4 x5 x6 x7 h L0 hf => ih (h := h) (x0 := x0) (x3 := x3) (x4 := x4) (x5 := x5) (x6 := x6) (x7 := x7) L0 hf) L0 hf
def g_j_isTable (KT : Nat → Int32 → Int32 → Int32 → XH → Option (Int32 × XH)) (t : Nat) (a0 : Int32) (a1 : Int32) (a2 : Int32) (h : XH) : Option (Int32 × XH) := (if t < hz h ∧ hk h t = 5 then (match f_j_isReference t a0 h with | none => none | some r16 => (if ¬ r16.1 = 0 then (if a2 ≤ 16 then (if t < hz r16.2 ∧ hk r16.2 t = 5 then (if (hi r16.2 t 3) < 200 then (match hr r16.2 t 1 with | none => none | some b23 => (if b23 < hz r16.2 ∧ hk r16.2 b23 = 1 then (match f_b_behind b23 a0 (hsi r16.2 t 3 ((hi r16.2 t 3) + 1)) with | none => none | some r26 => (if t < hz r26.2 ∧ hk r26.2 t = 5 then (match hr r26.2 t 0 with | none => none | some b30 => (if b30 < hz r26.2 ∧ hk r26.2 b30 = 9 then (match hr r26.2 b30 1 with | none => none | some b33 => (if b33 < hz r26.2 ∧ hk r26.2 b33 = 4 then (match f_g_at b33 a1 r26.2 with | none => none | some r36 => (match r36.1 with | none => (some (0, r36.2)) | some b40 => (if t < hz r36.2 ∧ hk r36.2 t = 5 then (match f_j_isList t r26.1 r36.2 with | none => none | some r42 => (if ¬ r42.1 = 0 then (if t < hz r42.2 ∧ hk r42.2 t = 5 then (match hr r42.2 t 1 with | none => none | some b47 => (if b47 < hz r42.2 ∧ hk r42.2 b47 = 1 then (match f_b_listOf b47 r26.1 r42.2 with | none => none | some r50 => (b_j_isTable_106 KT 100000 t a2 r26.1 (some b40) (Int64.toInt32 r50.1) 0 r50.2)) else none)) else none) else (some (0, r42.2)))) else none))) else none)) else none)) else none)) else none)) else (match f_j_wrong t 5 (Int32.toInt64 a0) r16.2 with | none => none | some r53 => (if r53.1 = 0 ∨ r53.1 = 1 then (some (r53.1, r53.2)) else none))) else none) else (if t < hz r16.2 ∧ hk r16.2 t = 5 then (match f_j_wrong t 4 (Int32.toInt64 a0) r16.2 with | none => none | some r58 => (if r58.1 = 0 ∨ r58.1 = 1 then (some (r58.1, r58.2)) else none)) else none)) else (some (0, r16.2)))) else none)
set_option maxRecDepth 20000 in
theorem kg_j_isTable {l : Launch} {G : XG} {d : Nat} {KT : Nat → Int32 → Int32 → Int32 → XH → Option (Int32 × XH)} {t : Nat} {a0 : Int32} {a1 : Int32} {a2 : Int32} {h : XH} {r : Int32 × XH} (hKT : ∀ (t : Nat) (a0 : Int32) (a1 : Int32) (a2 : Int32) (h : XH) (r : Int32 × XH), LY h → KT t a0 a1 a2 h = some r → XC l G xEX5_isTable d [.ref t, .int a0, .int a1, .int a2] h (fun v h2 => (h2 = r.2 ∧ v = some (.int r.1)) ∧ LY r.2)) (L0 : LY h) (hf : g_j_isTable KT t a0 a1 a2 h = some r) : XC l G xEX5_isTable (d + 5) [.ref t, .int a0, .int a1, .int a2] h (fun v h2 => (h2 = r.2 ∧ v = some (.int r.1)) ∧ LY r.2) := by
  refine XC.virt xvX5_isTable (Nat.le_of_ble_eq_true rfl) ?_
  unfold g_j_isTable at hf
  refine XS.go (s_aloadn rfl rfl rfl) ?_
  refine XS.go (s_iloadn rfl rfl rfl) ?_
  by_cases qk15 : t < hz h ∧ hk h t = 5
  rotate_left
  · rw [if_neg qk15] at hf; cases hf
  rw [if_pos qk15] at hf
  rcases e17 : f_j_isReference t a0 h with _ | r16
  · rw [e17] at hf; cases hf
  rw [e17] at hf; dsimp only at hf
  refine r_callv rfl xvX5_isReference xm5_55 (kf_j_isReference (d := d) L0 e17) qk15.1 qk15.2 (by decide) rfl rfl (by omega) (by decide) (Nat.le_of_ble_eq_true rfl) ?_
  rintro _ _ ⟨⟨rfl, rfl⟩, L18⟩
  refine r_if_ne (tgt := 10) rfl rfl (fun qc19 => ?_) (fun qc19 => ?_)
  · rw [if_pos qc19] at hf
    refine XS.go (s_iloadn rfl rfl rfl) ?_
    refine XS.go (s_bipush (v := 16) rfl rfl) ?_
    refine r_icmp_le (tgt := 24) rfl rfl (fun qc20 => ?_) (fun qc20 => ?_)
    · rw [if_pos qc20] at hf
      refine XS.go (s_aloadn rfl rfl rfl) ?_
      by_cases qk21 : t < hz r16.2 ∧ hk r16.2 t = 5
      rotate_left
      · rw [if_neg qk21] at hf; cases hf
      rw [if_pos qk21] at hf
      refine XS.go (s_getie rfl xf5_9 qk21.1 qk21.2 (by decide) rfl rfl) ?_
      refine XS.go (s_sipush (v := 200) rfl rfl) ?_
      refine r_icmp_lt (tgt := 42) rfl rfl (fun qc22 => ?_) (fun qc22 => ?_)
      · rw [if_pos qc22] at hf
        refine XS.go (s_aloadn rfl rfl rfl) ?_
        refine XS.go (s_dup rfl rfl) ?_
        refine XS.go (s_getie rfl xf5_9 qk21.1 qk21.2 (by decide) rfl rfl) ?_
        refine XS.go (s_iconst (v := 1) rfl rfl) ?_
        refine XS.go (s_iadd rfl) ?_
        refine XS.go (s_puti rfl xf5_9 qk21.1 qk21.2 (by decide) rfl (Or.inl rfl)) ?_
        refine XS.go (s_aloadn rfl rfl rfl) ?_
        rcases qr24 : hr r16.2 t 1 with _ | b23
        · rw [qr24] at hf; cases hf
        rw [qr24] at hf; dsimp only at hf
        refine XS.go (s_getr rfl xf5_25 (by simp only [hz_hsi, hk_hsi, hz_hsj, hk_hsj]; exact qk21.1) (by simp only [hz_hsi, hk_hsi, hz_hsj, hk_hsj]; exact qk21.2) (by decide) rfl (by simp only [hr_hsi, hr_hsj]; exact qr24)) ?_
        refine XS.go (s_iloadn rfl rfl rfl) ?_
        by_cases qk25 : b23 < hz r16.2 ∧ hk r16.2 b23 = 1
        rotate_left
        · rw [if_neg qk25] at hf; cases hf
        rw [if_pos qk25] at hf
        rcases e27 : f_b_behind b23 a0 (hsi r16.2 t 3 ((hi r16.2 t 3) + 1)) with _ | r26
        · rw [e27] at hf; cases hf
        rw [e27] at hf; dsimp only at hf
        refine r_callv rfl xvX1_behind xm5_59 (kf_b_behind (d := d) (by simp only [LY_si, LY_sj]; exact L18) e27) (by simp only [hz_hsi, hk_hsi, hz_hsj, hk_hsj]; exact qk25.1) (by simp only [hz_hsi, hk_hsi, hz_hsj, hk_hsj]; exact qk25.2) (by decide) rfl rfl (by omega) (by decide) (Nat.le_of_ble_eq_true rfl) ?_
        rintro _ _ ⟨⟨rfl, rfl⟩, L28⟩
        refine XS.go (s_istore rfl (Nat.le_of_ble_eq_true rfl)) ?_
        refine XS.go (s_aloadn rfl rfl rfl) ?_
        by_cases qk29 : t < hz r26.2 ∧ hk r26.2 t = 5
        rotate_left
        · rw [if_neg qk29] at hf; cases hf
        rw [if_pos qk29] at hf
        rcases qr31 : hr r26.2 t 0 with _ | b30
        · rw [qr31] at hf; cases hf
        rw [qr31] at hf; dsimp only at hf
        refine XS.go (s_getr rfl xf5_21 qk29.1 qk29.2 (by decide) rfl qr31) ?_
        by_cases qk32 : b30 < hz r26.2 ∧ hk r26.2 b30 = 9
        rotate_left
        · rw [if_neg qk32] at hf; cases hf
        rw [if_pos qk32] at hf
        rcases qr34 : hr r26.2 b30 1 with _ | b33
        · rw [qr34] at hf; cases hf
        rw [qr34] at hf; dsimp only at hf
        refine XS.go (s_getr rfl xf5_63 qk32.1 qk32.2 (by decide) rfl qr34) ?_
        refine XS.go (s_iloadn rfl rfl rfl) ?_
        by_cases qk35 : b33 < hz r26.2 ∧ hk r26.2 b33 = 4
        rotate_left
        · rw [if_neg qk35] at hf; cases hf
        rw [if_pos qk35] at hf
        rcases e37 : f_g_at b33 a1 r26.2 with _ | r36
        · rw [e37] at hf; cases hf
        rw [e37] at hf; dsimp only at hf
        refine r_callv rfl xvX4_at xm5_67 (kf_g_at (d := d) L28 e37) qk35.1 qk35.2 (by decide) rfl rfl (by omega) (by decide) (Nat.le_of_ble_eq_true rfl) ?_
        rintro _ _ ⟨⟨rfl, rfl⟩, L38⟩
        refine XS.go (s_astoreO rfl (Nat.le_of_ble_eq_true rfl)) ?_
        refine XS.go (s_aloadO rfl rfl) ?_
        refine r_ifnull (tgt := 89) rfl rfl (fun qn39 => ?_) (fun b40 qn39 => ?_)
        · rw [qn39] at hf; dsimp only at hf; try rw [qn39]
          refine XS.go (s_iconst (v := 0) rfl rfl) ?_
          cases hf
          exact XR.retz rfl rfl (by decide) (fun hret => ⟨_, hret, ⟨rfl, rfl⟩, L38⟩)
        · rw [qn39] at hf; dsimp only at hf; try rw [qn39]
          refine XS.go (s_aloadn rfl rfl rfl) ?_
          refine XS.go (s_iload rfl rfl) ?_
          by_cases qk41 : t < hz r36.2 ∧ hk r36.2 t = 5
          rotate_left
          · rw [if_neg qk41] at hf; cases hf
          rw [if_pos qk41] at hf
          rcases e43 : f_j_isList t r26.1 r36.2 with _ | r42
          · rw [e43] at hf; cases hf
          rw [e43] at hf; dsimp only at hf
          refine r_callv rfl xvX5_isList xm5_73 (kf_j_isList (d := d) L38 e43) qk41.1 qk41.2 (by decide) rfl rfl (by omega) (by decide) (Nat.le_of_ble_eq_true rfl) ?_
          rintro _ _ ⟨⟨rfl, rfl⟩, L44⟩
          refine r_if_ne (tgt := 91) rfl rfl (fun qc45 => ?_) (fun qc45 => ?_)
          · rw [if_pos qc45] at hf
            refine XS.go (s_aloadn rfl rfl rfl) ?_
            by_cases qk46 : t < hz r42.2 ∧ hk r42.2 t = 5
            rotate_left
            · rw [if_neg qk46] at hf; cases hf
            rw [if_pos qk46] at hf
            rcases qr48 : hr r42.2 t 1 with _ | b47
            · rw [qr48] at hf; cases hf
            rw [qr48] at hf; dsimp only at hf
            refine XS.go (s_getr rfl xf5_25 qk46.1 qk46.2 (by decide) rfl qr48) ?_
            refine XS.go (s_iload rfl rfl) ?_
            by_cases qk49 : b47 < hz r42.2 ∧ hk r42.2 b47 = 1
            rotate_left
            · rw [if_neg qk49] at hf; cases hf
            rw [if_pos qk49] at hf
            rcases e51 : f_b_listOf b47 r26.1 r42.2 with _ | r50
            · rw [e51] at hf; cases hf
            rw [e51] at hf; dsimp only at hf
            refine r_callv rfl xvX1_listOf xm5_76 (kf_b_listOf (d := d) L44 e51) qk49.1 qk49.2 (by decide) rfl rfl (by omega) (by decide) (Nat.le_of_ble_eq_true rfl) ?_
            rintro _ _ ⟨⟨rfl, rfl⟩, L52⟩
            refine XS.go (s_l2i rfl) ?_
            refine XS.go (s_istore rfl (Nat.le_of_ble_eq_true rfl)) ?_
            refine XS.go (s_iconst (v := 0) rfl rfl) ?_
            refine XS.go (s_istore rfl (Nat.le_of_ble_eq_true rfl)) ?_
            exact XR.forget (L2 := [some (.ref t), none, none, some (.int a2), some (.int r26.1), some (.ref b40), some (.int (Int64.toInt32 r50.1)), some (.int 0), none]) ⟨rfl, ⟨rfl, ⟨rfl, ⟨rfl, ⟨rfl, ⟨rfl, trivial⟩⟩⟩⟩⟩⟩ (kb_j_isTable_106 hKT L52 hf)
          · rw [if_neg qc45] at hf
            refine XS.go (s_iconst (v := 0) rfl rfl) ?_
            cases hf
            exact XR.retz rfl rfl (by decide) (fun hret => ⟨_, hret, ⟨rfl, rfl⟩, L44⟩)
      · rw [if_neg qc22] at hf
        refine XS.go (s_aloadn rfl rfl rfl) ?_
        refine XS.go (s_iconst (v := 5) rfl rfl) ?_
        refine XS.go (s_iloadn rfl rfl rfl) ?_
        refine XS.go (s_i2l rfl) ?_
        rcases e54 : f_j_wrong t 5 (Int32.toInt64 a0) r16.2 with _ | r53
        · rw [e54] at hf; cases hf
        rw [e54] at hf; dsimp only at hf
        refine r_callv rfl xvX5_wrong xm5_32 (kf_j_wrong (d := d) L18 e54) qk21.1 qk21.2 (by decide) rfl rfl (by omega) (by decide) (Nat.le_of_ble_eq_true rfl) ?_
        rintro _ _ ⟨⟨rfl, rfl⟩, L55⟩
        by_cases qk56 : r53.1 = 0 ∨ r53.1 = 1
        rotate_left
        · rw [if_neg qk56] at hf; cases hf
        rw [if_pos qk56] at hf
        cases hf
        exact XR.retz rfl rfl qk56 (fun hret => ⟨_, hret, ⟨rfl, rfl⟩, L55⟩)
    · rw [if_neg qc20] at hf
      refine XS.go (s_aloadn rfl rfl rfl) ?_
      refine XS.go (s_iconst (v := 4) rfl rfl) ?_
      refine XS.go (s_iloadn rfl rfl rfl) ?_
      refine XS.go (s_i2l rfl) ?_
      by_cases qk57 : t < hz r16.2 ∧ hk r16.2 t = 5
      rotate_left
      · rw [if_neg qk57] at hf; cases hf
      rw [if_pos qk57] at hf
      rcases e59 : f_j_wrong t 4 (Int32.toInt64 a0) r16.2 with _ | r58
      · rw [e59] at hf; cases hf
      rw [e59] at hf; dsimp only at hf
      refine r_callv rfl xvX5_wrong xm5_32 (kf_j_wrong (d := d) L18 e59) qk57.1 qk57.2 (by decide) rfl rfl (by omega) (by decide) (Nat.le_of_ble_eq_true rfl) ?_
      rintro _ _ ⟨⟨rfl, rfl⟩, L60⟩
      by_cases qk61 : r58.1 = 0 ∨ r58.1 = 1
      rotate_left
      · rw [if_neg qk61] at hf; cases hf
      rw [if_pos qk61] at hf
      cases hf
      exact XR.retz rfl rfl qk61 (fun hret => ⟨_, hret, ⟨rfl, rfl⟩, L60⟩)
  · rw [if_neg qc19] at hf
    refine XS.go (s_iconst (v := 0) rfl rfl) ?_
    cases hf
    exact XR.retz rfl rfl (by decide) (fun hret => ⟨_, hret, ⟨rfl, rfl⟩, L18⟩)
def f_j_isTable : Nat → Nat → Int32 → Int32 → Int32 → XH → Option (Int32 × XH)
  | 0, _, _, _, _, _ => none
  | n + 1, t, a0, a1, a2, h => g_j_isTable (f_j_isTable n) t a0 a1 a2 h
theorem kf_j_isTable {l : Launch} {G : XG} {d n : Nat} {t : Nat} {a0 : Int32} {a1 : Int32} {a2 : Int32} {h : XH} {r : Int32 × XH} (L0 : LY h) (hf : f_j_isTable n t a0 a1 a2 h = some r) : XC l G xEX5_isTable (d + 5 * n) [.ref t, .int a0, .int a1, .int a2] h (fun v h2 => (h2 = r.2 ∧ v = some (.int r.1)) ∧ LY r.2) := by
  induction n generalizing t a0 a1 a2 h r with
  | zero => cases hf
  | succ n ih =>
    have e9 : d + 5 * (n + 1) = (d + 5 * n) + 5 := by omega
    rw [e9]
    exact kg_j_isTable (fun t a0 a1 a2 h r L0 hf => ih (h := h) (r := r) (t := t) (a0 := a0) (a1 := a1) (a2 := a2) L0 hf) L0 hf
def f_j_accepts (t : Nat) (h : XH) : Option (Int32 × XH) := (if t < hz h ∧ hk h t = 5 then (if 4 ≤ (hi h t 2) then (match hr h t 0 with | none => none | some b3 => (if b3 < hz h ∧ hk h b3 = 9 then (match f_j_isTable 40 t 0 (hi h b3 5) 1 h with | none => none | some r6 => (if r6.1 = 0 ∨ r6.1 = 1 then (some (r6.1, r6.2)) else none)) else none)) else (match f_j_wrong t 1 0 h with | none => none | some r10 => (if r10.1 = 0 ∨ r10.1 = 1 then (some (r10.1, r10.2)) else none))) else none)
set_option maxRecDepth 20000 in
theorem kf_j_accepts {l : Launch} {G : XG} {d : Nat} {t : Nat} {h : XH} {r : Int32 × XH} (L0 : LY h) (hf : f_j_accepts t h = some r) : XC l G xEX5_accepts (d + 201) [.ref t] h (fun v h2 => (h2 = r.2 ∧ v = some (.int r.1)) ∧ LY r.2) := by
  refine XC.virt xvX5_accepts (Nat.le_of_ble_eq_true rfl) ?_
  unfold f_j_accepts at hf
  refine XS.go (s_aloadn rfl rfl rfl) ?_
  by_cases qk1 : t < hz h ∧ hk h t = 5
  rotate_left
  · rw [if_neg qk1] at hf; cases hf
  rw [if_pos qk1] at hf
  refine XS.go (s_getie rfl xf5_29 qk1.1 qk1.2 (by decide) rfl rfl) ?_
  refine XS.go (s_iconst (v := 4) rfl rfl) ?_
  refine r_icmp_ge (tgt := 15) rfl rfl (fun qc2 => ?_) (fun qc2 => ?_)
  · rw [if_pos qc2] at hf
    refine XS.go (s_aloadn rfl rfl rfl) ?_
    refine XS.go (s_iconst (v := 0) rfl rfl) ?_
    refine XS.go (s_aloadn rfl rfl rfl) ?_
    rcases qr4 : hr h t 0 with _ | b3
    · rw [qr4] at hf; cases hf
    rw [qr4] at hf; dsimp only at hf
    refine XS.go (s_getr rfl xf5_21 qk1.1 qk1.2 (by decide) rfl qr4) ?_
    by_cases qk5 : b3 < hz h ∧ hk h b3 = 9
    rotate_left
    · rw [if_neg qk5] at hf; cases hf
    rw [if_pos qk5] at hf
    refine XS.go (s_getie rfl xf5_36 qk5.1 qk5.2 (by decide) rfl rfl) ?_
    refine XS.go (s_iconst (v := 1) rfl rfl) ?_
    rcases e7 : f_j_isTable 40 t 0 (hi h b3 5) 1 h with _ | r6
    · rw [e7] at hf; cases hf
    rw [e7] at hf; dsimp only at hf
    refine r_callv rfl xvX5_isTable xm5_41 (kf_j_isTable (n := 40) (d := d) L0 e7) qk1.1 qk1.2 (by decide) rfl rfl (by omega) (by decide) (Nat.le_of_ble_eq_true rfl) ?_
    rintro _ _ ⟨⟨rfl, rfl⟩, L8⟩
    by_cases qk9 : r6.1 = 0 ∨ r6.1 = 1
    rotate_left
    · rw [if_neg qk9] at hf; cases hf
    rw [if_pos qk9] at hf
    cases hf
    exact XR.retz rfl rfl qk9 (fun hret => ⟨_, hret, ⟨rfl, rfl⟩, L8⟩)
  · rw [if_neg qc2] at hf
    refine XS.go (s_aloadn rfl rfl rfl) ?_
    refine XS.go (s_iconst (v := 1) rfl rfl) ?_
    refine XS.go (s_lconst (v := 0) rfl rfl) ?_
    rcases e11 : f_j_wrong t 1 0 h with _ | r10
    · rw [e11] at hf; cases hf
    rw [e11] at hf; dsimp only at hf
    refine r_callv rfl xvX5_wrong xm5_32 (kf_j_wrong (d := d) L0 e11) qk1.1 qk1.2 (by decide) rfl rfl (by omega) (by decide) (Nat.le_of_ble_eq_true rfl) ?_
    rintro _ _ ⟨⟨rfl, rfl⟩, L12⟩
    by_cases qk13 : r10.1 = 0 ∨ r10.1 = 1
    rotate_left
    · rw [if_neg qk13] at hf; cases hf
    rw [if_pos qk13] at hf
    cases hf
    exact XR.retz rfl rfl qk13 (fun hret => ⟨_, hret, ⟨rfl, rfl⟩, L12⟩)
def f_x_kind (a0 : Int32) (h : XH) : Option (Int32 × XH) := (if a0 < 0 then (some (0, h)) else (if (hi h 7 4) ≤ a0 then (some (0, h)) else (if (nI 4001) ≤ a0 then (some (0, h)) else (some ((hi h 8 (Int32.toNatClampNeg a0)), h)))))
set_option maxRecDepth 20000 in
theorem kf_x_kind {l : Launch} {G : XG} {d : Nat} {a0 : Int32} {h : XH} {r : Int32 × XH} (L0 : LY h) (hf : f_x_kind a0 h = some r) : XC l G xEX6_kind d [.ref 7, .int a0] h (fun v h2 => (h2 = r.2 ∧ v = some (.int r.1)) ∧ LY r.2) := by
  refine XC.virt xvX6_kind (Nat.le_of_ble_eq_true rfl) ?_
  unfold f_x_kind at hf
  refine XS.go (s_iloadn rfl rfl rfl) ?_
  refine r_if_lt (tgt := 30) rfl rfl (fun qc1 => ?_) (fun qc1 => ?_)
  · rw [if_pos qc1] at hf
    refine XS.go (s_iconst (v := 0) rfl rfl) ?_
    cases hf
    exact XR.reti rfl rfl (fun hret => ⟨_, hret, ⟨rfl, rfl⟩, L0⟩)
  · rw [if_neg qc1] at hf
    refine XS.go (s_iloadn rfl rfl rfl) ?_
    refine XS.go (s_aloadn rfl rfl rfl) ?_
    refine XS.go (s_getie rfl xf6_25 (LY.lt L0 (by decide)) (LY.k7 L0) (by decide) rfl rfl) ?_
    refine r_icmp_ge (tgt := 30) rfl rfl (fun qc2 => ?_) (fun qc2 => ?_)
    · rw [if_pos qc2] at hf
      refine XS.go (s_iconst (v := 0) rfl rfl) ?_
      cases hf
      exact XR.reti rfl rfl (fun hret => ⟨_, hret, ⟨rfl, rfl⟩, L0⟩)
    · rw [if_neg qc2] at hf
      refine XS.go (s_iloadn rfl rfl rfl) ?_
      refine XS.go (s_aloadn rfl rfl rfl) ?_
      refine XS.go (s_getr rfl xf6_9 (LY.lt L0 (by decide)) (LY.k7 L0) (by decide) rfl (LY.r7_0 L0)) ?_
      refine XS.go (s_alene rfl (LY.lt L0 (by decide)) (LY.k8 L0) (LY.n8 L0) (by decide)) ?_
      refine r_icmp_ge (tgt := 30) rfl rfl (fun qc3 => ?_) (fun qc3 => ?_)
      · rw [if_pos qc3] at hf
        refine XS.go (s_iconst (v := 0) rfl rfl) ?_
        cases hf
        exact XR.reti rfl rfl (fun hret => ⟨_, hret, ⟨rfl, rfl⟩, L0⟩)
      · rw [if_neg qc3] at hf
        refine XS.go (s_aloadn rfl rfl rfl) ?_
        refine XS.go (s_getr rfl xf6_9 (LY.lt L0 (by decide)) (LY.k7 L0) (by decide) rfl (LY.r7_0 L0)) ?_
        refine XS.go (s_iloadn rfl rfl rfl) ?_
        refine XS.go (s_ialde rfl (LY.lt L0 (by decide)) (LY.k8 L0) (in_of (N := 4001) (LY.n8 L0) (by decide) qc1 qc3) rfl) ?_
        refine XS.go (s_goto (tgt := 31) rfl rfl) ?_
        cases hf
        exact XR.reti rfl rfl (fun hret => ⟨_, hret, ⟨rfl, rfl⟩, L0⟩)
def f_x_place (a0 : Int32) (h : XH) : Option (Int32 × XH) := (if a0 < 0 then (some (0, h)) else (if (hi h 7 4) ≤ a0 then (some (0, h)) else (if (nI 4001) ≤ a0 then (some (0, h)) else (some ((hi h 9 (Int32.toNatClampNeg a0)), h)))))
set_option maxRecDepth 20000 in
theorem kf_x_place {l : Launch} {G : XG} {d : Nat} {a0 : Int32} {h : XH} {r : Int32 × XH} (L0 : LY h) (hf : f_x_place a0 h = some r) : XC l G xEX6_place d [.ref 7, .int a0] h (fun v h2 => (h2 = r.2 ∧ v = some (.int r.1)) ∧ LY r.2) := by
  refine XC.virt xvX6_place (Nat.le_of_ble_eq_true rfl) ?_
  unfold f_x_place at hf
  refine XS.go (s_iloadn rfl rfl rfl) ?_
  refine r_if_lt (tgt := 30) rfl rfl (fun qc1 => ?_) (fun qc1 => ?_)
  · rw [if_pos qc1] at hf
    refine XS.go (s_iconst (v := 0) rfl rfl) ?_
    cases hf
    exact XR.reti rfl rfl (fun hret => ⟨_, hret, ⟨rfl, rfl⟩, L0⟩)
  · rw [if_neg qc1] at hf
    refine XS.go (s_iloadn rfl rfl rfl) ?_
    refine XS.go (s_aloadn rfl rfl rfl) ?_
    refine XS.go (s_getie rfl xf6_25 (LY.lt L0 (by decide)) (LY.k7 L0) (by decide) rfl rfl) ?_
    refine r_icmp_ge (tgt := 30) rfl rfl (fun qc2 => ?_) (fun qc2 => ?_)
    · rw [if_pos qc2] at hf
      refine XS.go (s_iconst (v := 0) rfl rfl) ?_
      cases hf
      exact XR.reti rfl rfl (fun hret => ⟨_, hret, ⟨rfl, rfl⟩, L0⟩)
    · rw [if_neg qc2] at hf
      refine XS.go (s_iloadn rfl rfl rfl) ?_
      refine XS.go (s_aloadn rfl rfl rfl) ?_
      refine XS.go (s_getr rfl xf6_15 (LY.lt L0 (by decide)) (LY.k7 L0) (by decide) rfl (LY.r7_1 L0)) ?_
      refine XS.go (s_alene rfl (LY.lt L0 (by decide)) (LY.k9 L0) (LY.n9 L0) (by decide)) ?_
      refine r_icmp_ge (tgt := 30) rfl rfl (fun qc3 => ?_) (fun qc3 => ?_)
      · rw [if_pos qc3] at hf
        refine XS.go (s_iconst (v := 0) rfl rfl) ?_
        cases hf
        exact XR.reti rfl rfl (fun hret => ⟨_, hret, ⟨rfl, rfl⟩, L0⟩)
      · rw [if_neg qc3] at hf
        refine XS.go (s_aloadn rfl rfl rfl) ?_
        refine XS.go (s_getr rfl xf6_15 (LY.lt L0 (by decide)) (LY.k7 L0) (by decide) rfl (LY.r7_1 L0)) ?_
        refine XS.go (s_iloadn rfl rfl rfl) ?_
        refine XS.go (s_ialde rfl (LY.lt L0 (by decide)) (LY.k9 L0) (in_of (N := 4001) (LY.n9 L0) (by decide) qc1 qc3) rfl) ?_
        refine XS.go (s_goto (tgt := 31) rfl rfl) ?_
        cases hf
        exact XR.reti rfl rfl (fun hret => ⟨_, hret, ⟨rfl, rfl⟩, L0⟩)
def f_x_head (a0 : Int32) (h : XH) : Option (Int64 × XH) := (if a0 < 0 then (some (0, h)) else (if (hi h 7 4) ≤ a0 then (some (0, h)) else (if (nI 4001) ≤ a0 then (some (0, h)) else (some ((hj h 10 (Int32.toNatClampNeg a0)), h)))))
set_option maxRecDepth 20000 in
theorem kf_x_head {l : Launch} {G : XG} {d : Nat} {a0 : Int32} {h : XH} {r : Int64 × XH} (L0 : LY h) (hf : f_x_head a0 h = some r) : XC l G xEX6_head d [.ref 7, .int a0] h (fun v h2 => (h2 = r.2 ∧ v = some (.long r.1)) ∧ LY r.2) := by
  refine XC.virt xvX6_head (Nat.le_of_ble_eq_true rfl) ?_
  unfold f_x_head at hf
  refine XS.go (s_iloadn rfl rfl rfl) ?_
  refine r_if_lt (tgt := 30) rfl rfl (fun qc1 => ?_) (fun qc1 => ?_)
  · rw [if_pos qc1] at hf
    refine XS.go (s_lconst (v := 0) rfl rfl) ?_
    cases hf
    exact XR.retl rfl rfl (fun hret => ⟨_, hret, ⟨rfl, rfl⟩, L0⟩)
  · rw [if_neg qc1] at hf
    refine XS.go (s_iloadn rfl rfl rfl) ?_
    refine XS.go (s_aloadn rfl rfl rfl) ?_
    refine XS.go (s_getie rfl xf6_25 (LY.lt L0 (by decide)) (LY.k7 L0) (by decide) rfl rfl) ?_
    refine r_icmp_ge (tgt := 30) rfl rfl (fun qc2 => ?_) (fun qc2 => ?_)
    · rw [if_pos qc2] at hf
      refine XS.go (s_lconst (v := 0) rfl rfl) ?_
      cases hf
      exact XR.retl rfl rfl (fun hret => ⟨_, hret, ⟨rfl, rfl⟩, L0⟩)
    · rw [if_neg qc2] at hf
      refine XS.go (s_iloadn rfl rfl rfl) ?_
      refine XS.go (s_aloadn rfl rfl rfl) ?_
      refine XS.go (s_getr rfl xf6_18 (LY.lt L0 (by decide)) (LY.k7 L0) (by decide) rfl (LY.r7_2 L0)) ?_
      refine XS.go (s_alene rfl (LY.lt L0 (by decide)) (LY.k10 L0) (LY.n10 L0) (by decide)) ?_
      refine r_icmp_ge (tgt := 30) rfl rfl (fun qc3 => ?_) (fun qc3 => ?_)
      · rw [if_pos qc3] at hf
        refine XS.go (s_lconst (v := 0) rfl rfl) ?_
        cases hf
        exact XR.retl rfl rfl (fun hret => ⟨_, hret, ⟨rfl, rfl⟩, L0⟩)
      · rw [if_neg qc3] at hf
        refine XS.go (s_aloadn rfl rfl rfl) ?_
        refine XS.go (s_getr rfl xf6_18 (LY.lt L0 (by decide)) (LY.k7 L0) (by decide) rfl (LY.r7_2 L0)) ?_
        refine XS.go (s_iloadn rfl rfl rfl) ?_
        refine XS.go (s_lalde rfl (LY.lt L0 (by decide)) (LY.k10 L0) (in_of (N := 4001) (LY.n10 L0) (by decide) qc1 qc3) rfl) ?_
        refine XS.go (s_goto (tgt := 31) rfl rfl) ?_
        cases hf
        exact XR.retl rfl rfl (fun hret => ⟨_, hret, ⟨rfl, rfl⟩, L0⟩)
def f_x_tail (a0 : Int32) (h : XH) : Option (Int64 × XH) := (if a0 < 0 then (some (0, h)) else (if (hi h 7 4) ≤ a0 then (some (0, h)) else (if (nI 4001) ≤ a0 then (some (0, h)) else (some ((hj h 11 (Int32.toNatClampNeg a0)), h)))))
set_option maxRecDepth 20000 in
theorem kf_x_tail {l : Launch} {G : XG} {d : Nat} {a0 : Int32} {h : XH} {r : Int64 × XH} (L0 : LY h) (hf : f_x_tail a0 h = some r) : XC l G xEX6_tail d [.ref 7, .int a0] h (fun v h2 => (h2 = r.2 ∧ v = some (.long r.1)) ∧ LY r.2) := by
  refine XC.virt xvX6_tail (Nat.le_of_ble_eq_true rfl) ?_
  unfold f_x_tail at hf
  refine XS.go (s_iloadn rfl rfl rfl) ?_
  refine r_if_lt (tgt := 30) rfl rfl (fun qc1 => ?_) (fun qc1 => ?_)
  · rw [if_pos qc1] at hf
    refine XS.go (s_lconst (v := 0) rfl rfl) ?_
    cases hf
    exact XR.retl rfl rfl (fun hret => ⟨_, hret, ⟨rfl, rfl⟩, L0⟩)
  · rw [if_neg qc1] at hf
    refine XS.go (s_iloadn rfl rfl rfl) ?_
    refine XS.go (s_aloadn rfl rfl rfl) ?_
    refine XS.go (s_getie rfl xf6_25 (LY.lt L0 (by decide)) (LY.k7 L0) (by decide) rfl rfl) ?_
    refine r_icmp_ge (tgt := 30) rfl rfl (fun qc2 => ?_) (fun qc2 => ?_)
    · rw [if_pos qc2] at hf
      refine XS.go (s_lconst (v := 0) rfl rfl) ?_
      cases hf
      exact XR.retl rfl rfl (fun hret => ⟨_, hret, ⟨rfl, rfl⟩, L0⟩)
    · rw [if_neg qc2] at hf
      refine XS.go (s_iloadn rfl rfl rfl) ?_
      refine XS.go (s_aloadn rfl rfl rfl) ?_
      refine XS.go (s_getr rfl xf6_22 (LY.lt L0 (by decide)) (LY.k7 L0) (by decide) rfl (LY.r7_3 L0)) ?_
      refine XS.go (s_alene rfl (LY.lt L0 (by decide)) (LY.k11 L0) (LY.n11 L0) (by decide)) ?_
      refine r_icmp_ge (tgt := 30) rfl rfl (fun qc3 => ?_) (fun qc3 => ?_)
      · rw [if_pos qc3] at hf
        refine XS.go (s_lconst (v := 0) rfl rfl) ?_
        cases hf
        exact XR.retl rfl rfl (fun hret => ⟨_, hret, ⟨rfl, rfl⟩, L0⟩)
      · rw [if_neg qc3] at hf
        refine XS.go (s_aloadn rfl rfl rfl) ?_
        refine XS.go (s_getr rfl xf6_22 (LY.lt L0 (by decide)) (LY.k7 L0) (by decide) rfl (LY.r7_3 L0)) ?_
        refine XS.go (s_iloadn rfl rfl rfl) ?_
        refine XS.go (s_lalde rfl (LY.lt L0 (by decide)) (LY.k11 L0) (in_of (N := 4001) (LY.n11 L0) (by decide) qc1 qc3) rfl) ?_
        refine XS.go (s_goto (tgt := 31) rfl rfl) ?_
        cases hf
        exact XR.retl rfl rfl (fun hret => ⟨_, hret, ⟨rfl, rfl⟩, L0⟩)
def f_x_isDigit (a0 : Int32) (h : XH) : Option (Int32 × XH) := (if a0 < 48 then (some (0, h)) else (if 57 < a0 then (some (0, h)) else (some (1, h))))
set_option maxRecDepth 20000 in
theorem kf_x_isDigit {l : Launch} {G : XG} {d : Nat} {a0 : Int32} {h : XH} {r : Int32 × XH} (L0 : LY h) (hf : f_x_isDigit a0 h = some r) : XC l G xEX6_isDigit d [.int a0] h (fun v h2 => (h2 = r.2 ∧ v = some (.int r.1)) ∧ LY r.2) := by
  refine XC.stat xsX6_isDigit (Nat.le_of_ble_eq_true rfl) ?_
  unfold f_x_isDigit at hf
  refine XS.go (s_iloadn rfl rfl rfl) ?_
  refine XS.go (s_bipush (v := 48) rfl rfl) ?_
  refine r_icmp_lt (tgt := 16) rfl rfl (fun qc1 => ?_) (fun qc1 => ?_)
  · rw [if_pos qc1] at hf
    refine XS.go (s_iconst (v := 0) rfl rfl) ?_
    cases hf
    exact XR.retz rfl rfl (by decide) (fun hret => ⟨_, hret, ⟨rfl, rfl⟩, L0⟩)
  · rw [if_neg qc1] at hf
    refine XS.go (s_iloadn rfl rfl rfl) ?_
    refine XS.go (s_bipush (v := 57) rfl rfl) ?_
    refine r_icmp_gt (tgt := 16) rfl rfl (fun qc2 => ?_) (fun qc2 => ?_)
    · rw [if_pos qc2] at hf
      refine XS.go (s_iconst (v := 0) rfl rfl) ?_
      cases hf
      exact XR.retz rfl rfl (by decide) (fun hret => ⟨_, hret, ⟨rfl, rfl⟩, L0⟩)
    · rw [if_neg qc2] at hf
      refine XS.go (s_iconst (v := 1) rfl rfl) ?_
      refine XS.go (s_goto (tgt := 17) rfl rfl) ?_
      cases hf
      exact XR.retz rfl rfl (by decide) (fun hret => ⟨_, hret, ⟨rfl, rfl⟩, L0⟩)
def b_x_isLetter_30 (h : XH) : Option (Int32 × XH) := (some (1, h))
set_option maxRecDepth 20000 in
theorem kb_x_isLetter_30 {l : Launch} {G : XG} {d : Nat} {h : XH} {r : Int32 × XH} (L0 : LY h) (hf : b_x_isLetter_30 h = some r) : XR l G xEX6_isLetter d (30, [none], [], h) (fun C => ∃ v, xRet xEX6_isLetter C v ∧ (C.2.2.2 = r.2 ∧ v = some (.int r.1)) ∧ LY r.2) := by
  unfold b_x_isLetter_30 at hf
  refine XS.go (s_iconst (v := 1) rfl rfl) ?_
  refine XS.go (s_goto (tgt := 35) rfl rfl) ?_
  cases hf
  exact XR.retz rfl rfl (by decide) (fun hret => ⟨_, hret, ⟨rfl, rfl⟩, L0⟩)
def b_x_isLetter_24 (x0 : Int32) (h : XH) : Option (Int32 × XH) := (if ¬ x0 = 95 then (some (0, h)) else (b_x_isLetter_30 h))
set_option maxRecDepth 20000 in
theorem kb_x_isLetter_24 {l : Launch} {G : XG} {d : Nat} {x0 : Int32} {h : XH} {r : Int32 × XH} (L0 : LY h) (hf : b_x_isLetter_24 x0 h = some r) : XR l G xEX6_isLetter d (24, [some (.int x0)], [], h) (fun C => ∃ v, xRet xEX6_isLetter C v ∧ (C.2.2.2 = r.2 ∧ v = some (.int r.1)) ∧ LY r.2) := by
  unfold b_x_isLetter_24 at hf
  refine XS.go (s_iloadn rfl rfl rfl) ?_
  refine XS.go (s_bipush (v := 95) rfl rfl) ?_
  refine r_icmp_ne (tgt := 34) rfl rfl (fun qc1 => ?_) (fun qc1 => ?_)
  · rw [if_pos qc1] at hf
    refine XS.go (s_iconst (v := 0) rfl rfl) ?_
    cases hf
    exact XR.retz rfl rfl (by decide) (fun hret => ⟨_, hret, ⟨rfl, rfl⟩, L0⟩)
  · rw [if_neg qc1] at hf
    exact XR.forget (L2 := [none]) trivial (kb_x_isLetter_30 L0 hf)
def b_x_isLetter_12 (x0 : Int32) (h : XH) : Option (Int32 × XH) := (if x0 < 97 then (b_x_isLetter_24 x0 h) else (if x0 ≤ 122 then (b_x_isLetter_30 h) else (b_x_isLetter_24 x0 h)))
set_option maxRecDepth 20000 in
theorem kb_x_isLetter_12 {l : Launch} {G : XG} {d : Nat} {x0 : Int32} {h : XH} {r : Int32 × XH} (L0 : LY h) (hf : b_x_isLetter_12 x0 h = some r) : XR l G xEX6_isLetter d (12, [some (.int x0)], [], h) (fun C => ∃ v, xRet xEX6_isLetter C v ∧ (C.2.2.2 = r.2 ∧ v = some (.int r.1)) ∧ LY r.2) := by
  unfold b_x_isLetter_12 at hf
  refine XS.go (s_iloadn rfl rfl rfl) ?_
  refine XS.go (s_bipush (v := 97) rfl rfl) ?_
  refine r_icmp_lt (tgt := 24) rfl rfl (fun qc2 => ?_) (fun qc2 => ?_)
  · rw [if_pos qc2] at hf
    exact XR.forget (L2 := [some (.int x0)]) ⟨rfl, trivial⟩ (kb_x_isLetter_24 L0 hf)
  · rw [if_neg qc2] at hf
    refine XS.go (s_iloadn rfl rfl rfl) ?_
    refine XS.go (s_bipush (v := 122) rfl rfl) ?_
    refine r_icmp_le (tgt := 30) rfl rfl (fun qc3 => ?_) (fun qc3 => ?_)
    · rw [if_pos qc3] at hf
      exact XR.forget (L2 := [none]) trivial (kb_x_isLetter_30 L0 hf)
    · rw [if_neg qc3] at hf
      exact XR.forget (L2 := [some (.int x0)]) ⟨rfl, trivial⟩ (kb_x_isLetter_24 L0 hf)
def f_x_isLetter (a0 : Int32) (h : XH) : Option (Int32 × XH) := (if a0 < 65 then (b_x_isLetter_12 a0 h) else (if a0 ≤ 90 then (b_x_isLetter_30 h) else (b_x_isLetter_12 a0 h)))
set_option maxRecDepth 20000 in
theorem kf_x_isLetter {l : Launch} {G : XG} {d : Nat} {a0 : Int32} {h : XH} {r : Int32 × XH} (L0 : LY h) (hf : f_x_isLetter a0 h = some r) : XC l G xEX6_isLetter d [.int a0] h (fun v h2 => (h2 = r.2 ∧ v = some (.int r.1)) ∧ LY r.2) := by
  refine XC.stat xsX6_isLetter (Nat.le_of_ble_eq_true rfl) ?_
  unfold f_x_isLetter at hf
  refine XS.go (s_iloadn rfl rfl rfl) ?_
  refine XS.go (s_bipush (v := 65) rfl rfl) ?_
  refine r_icmp_lt (tgt := 12) rfl rfl (fun qc4 => ?_) (fun qc4 => ?_)
  · rw [if_pos qc4] at hf
    exact XR.forget (L2 := [some (.int a0)]) ⟨rfl, trivial⟩ (kb_x_isLetter_12 L0 hf)
  · rw [if_neg qc4] at hf
    refine XS.go (s_iloadn rfl rfl rfl) ?_
    refine XS.go (s_bipush (v := 90) rfl rfl) ?_
    refine r_icmp_le (tgt := 30) rfl rfl (fun qc5 => ?_) (fun qc5 => ?_)
    · rw [if_pos qc5] at hf
      exact XR.forget (L2 := [none]) trivial (kb_x_isLetter_30 L0 hf)
    · rw [if_neg qc5] at hf
      exact XR.forget (L2 := [some (.int a0)]) ⟨rfl, trivial⟩ (kb_x_isLetter_12 L0 hf)
def f_x_keep (a0 : Int32) (a1 : Int32) (a2 : Int64) (a3 : Int64) (h : XH) : Option (Int32 × XH) := (if (hi h 7 4) < 0 then (some (a0, h)) else (if (nI 4001) ≤ (hi h 7 4) then (some (a0, h)) else (some (a0, (hsi (hsj (hsj (hsi (hsi h 8 (Int32.toNatClampNeg (hi h 7 4)) a0) 9 (Int32.toNatClampNeg (hi h 7 4)) a1) 10 (Int32.toNatClampNeg (hi h 7 4)) a2) 11 (Int32.toNatClampNeg (hi h 7 4)) a3) 7 4 ((hi h 7 4) + 1))))))
set_option maxRecDepth 20000 in
theorem kf_x_keep {l : Launch} {G : XG} {d : Nat} {a0 : Int32} {a1 : Int32} {a2 : Int64} {a3 : Int64} {h : XH} {r : Int32 × XH} (L0 : LY h) (hf : f_x_keep a0 a1 a2 a3 h = some r) : XC l G xEX6_keep d [.ref 7, .int a0, .int a1, .long a2, .long a3] h (fun v h2 => (h2 = r.2 ∧ v = some (.int r.1)) ∧ LY r.2) := by
  refine XC.virt xvX6_keep (Nat.le_of_ble_eq_true rfl) ?_
  unfold f_x_keep at hf
  refine XS.go (s_aloadn rfl rfl rfl) ?_
  refine XS.go (s_getie rfl xf6_25 (LY.lt L0 (by decide)) (LY.k7 L0) (by decide) rfl rfl) ?_
  refine r_if_lt (tgt := 70) rfl rfl (fun qc1 => ?_) (fun qc1 => ?_)
  · rw [if_pos qc1] at hf
    refine XS.go (s_iloadn rfl rfl rfl) ?_
    cases hf
    exact XR.reti rfl rfl (fun hret => ⟨_, hret, ⟨rfl, rfl⟩, L0⟩)
  · rw [if_neg qc1] at hf
    refine XS.go (s_aloadn rfl rfl rfl) ?_
    refine XS.go (s_getie rfl xf6_25 (LY.lt L0 (by decide)) (LY.k7 L0) (by decide) rfl rfl) ?_
    refine XS.go (s_aloadn rfl rfl rfl) ?_
    refine XS.go (s_getr rfl xf6_9 (LY.lt L0 (by decide)) (LY.k7 L0) (by decide) rfl (LY.r7_0 L0)) ?_
    refine XS.go (s_alene rfl (LY.lt L0 (by decide)) (LY.k8 L0) (LY.n8 L0) (by decide)) ?_
    refine r_icmp_ge (tgt := 70) rfl rfl (fun qc2 => ?_) (fun qc2 => ?_)
    · rw [if_pos qc2] at hf
      refine XS.go (s_iloadn rfl rfl rfl) ?_
      cases hf
      exact XR.reti rfl rfl (fun hret => ⟨_, hret, ⟨rfl, rfl⟩, L0⟩)
    · rw [if_neg qc2] at hf
      refine XS.go (s_aloadn rfl rfl rfl) ?_
      refine XS.go (s_getr rfl xf6_9 (LY.lt L0 (by decide)) (LY.k7 L0) (by decide) rfl (LY.r7_0 L0)) ?_
      refine XS.go (s_aloadn rfl rfl rfl) ?_
      refine XS.go (s_getie rfl xf6_25 (LY.lt L0 (by decide)) (LY.k7 L0) (by decide) rfl rfl) ?_
      refine XS.go (s_iloadn rfl rfl rfl) ?_
      refine XS.go (s_iast rfl (LY.lt L0 (by decide)) (LY.k8 L0) (in_of (N := 4001) (LY.n8 L0) (by decide) qc1 qc2)) ?_
      refine XS.go (s_aloadn rfl rfl rfl) ?_
      refine XS.go (s_getr rfl xf6_15 (LY.lt (by simp only [LY_si, LY_sj]; exact L0) (by decide)) (LY.k7 (by simp only [LY_si, LY_sj]; exact L0)) (by decide) rfl (LY.r7_1 (by simp only [LY_si, LY_sj]; exact L0))) ?_
      refine XS.go (s_aloadn rfl rfl rfl) ?_
      refine XS.go (s_getie rfl xf6_25 (LY.lt (by simp only [LY_si, LY_sj]; exact L0) (by decide)) (LY.k7 (by simp only [LY_si, LY_sj]; exact L0)) (by decide) rfl (hi_hsi_na (by decide))) ?_
      refine XS.go (s_iloadn rfl rfl rfl) ?_
      refine XS.go (s_iast rfl (LY.lt (by simp only [LY_si, LY_sj]; exact L0) (by decide)) (LY.k9 (by simp only [LY_si, LY_sj]; exact L0)) (in_of (N := 4001) (LY.n9 (by simp only [LY_si, LY_sj]; exact L0)) (by decide) qc1 qc2)) ?_
      refine XS.go (s_aloadn rfl rfl rfl) ?_
      refine XS.go (s_getr rfl xf6_18 (LY.lt (by simp only [LY_si, LY_sj]; exact L0) (by decide)) (LY.k7 (by simp only [LY_si, LY_sj]; exact L0)) (by decide) rfl (LY.r7_2 (by simp only [LY_si, LY_sj]; exact L0))) ?_
      refine XS.go (s_aloadn rfl rfl rfl) ?_
      refine XS.go (s_getie rfl xf6_25 (LY.lt (by simp only [LY_si, LY_sj]; exact L0) (by decide)) (LY.k7 (by simp only [LY_si, LY_sj]; exact L0)) (by decide) rfl ((hi_hsi_na (by decide)).trans (hi_hsi_na (by decide)))) ?_
      refine XS.go (s_lloadn rfl rfl rfl) ?_
      refine XS.go (s_last rfl (LY.lt (by simp only [LY_si, LY_sj]; exact L0) (by decide)) (LY.k10 (by simp only [LY_si, LY_sj]; exact L0)) (in_of (N := 4001) (LY.n10 (by simp only [LY_si, LY_sj]; exact L0)) (by decide) qc1 qc2)) ?_
      refine XS.go (s_aloadn rfl rfl rfl) ?_
      refine XS.go (s_getr rfl xf6_22 (LY.lt (by simp only [LY_si, LY_sj]; exact L0) (by decide)) (LY.k7 (by simp only [LY_si, LY_sj]; exact L0)) (by decide) rfl (LY.r7_3 (by simp only [LY_si, LY_sj]; exact L0))) ?_
      refine XS.go (s_aloadn rfl rfl rfl) ?_
      refine XS.go (s_getie rfl xf6_25 (LY.lt (by simp only [LY_si, LY_sj]; exact L0) (by decide)) (LY.k7 (by simp only [LY_si, LY_sj]; exact L0)) (by decide) rfl ((congrFun hi_hsj _).trans ((hi_hsi_na (by decide)).trans (hi_hsi_na (by decide))))) ?_
      refine XS.go (s_lload rfl rfl) ?_
      refine XS.go (s_last rfl (LY.lt (by simp only [LY_si, LY_sj]; exact L0) (by decide)) (LY.k11 (by simp only [LY_si, LY_sj]; exact L0)) (in_of (N := 4001) (LY.n11 (by simp only [LY_si, LY_sj]; exact L0)) (by decide) qc1 qc2)) ?_
      refine XS.go (s_aloadn rfl rfl rfl) ?_
      refine XS.go (s_dup rfl rfl) ?_
      refine XS.go (s_getie rfl xf6_25 (LY.lt (by simp only [LY_si, LY_sj]; exact L0) (by decide)) (LY.k7 (by simp only [LY_si, LY_sj]; exact L0)) (by decide) rfl ((congrFun hi_hsj _).trans ((congrFun hi_hsj _).trans ((hi_hsi_na (by decide)).trans (hi_hsi_na (by decide)))))) ?_
      refine XS.go (s_iconst (v := 1) rfl rfl) ?_
      refine XS.go (s_iadd rfl) ?_
      refine XS.go (s_puti rfl xf6_25 (LY.lt (by simp only [LY_si, LY_sj]; exact L0) (by decide)) (LY.k7 (by simp only [LY_si, LY_sj]; exact L0)) (by decide) rfl (Or.inl rfl)) ?_
      refine XS.go (s_iloadn rfl rfl rfl) ?_
      cases hf
      exact XR.reti rfl rfl (fun hret => ⟨_, hret, ⟨rfl, rfl⟩, (by simp only [LY_si, LY_sj]; exact L0)⟩)
def b_x_isBlank_24 (h : XH) : Option (Int32 × XH) := (some (1, h))
set_option maxRecDepth 20000 in
theorem kb_x_isBlank_24 {l : Launch} {G : XG} {d : Nat} {h : XH} {r : Int32 × XH} (L0 : LY h) (hf : b_x_isBlank_24 h = some r) : XR l G xEX6_isBlank d (24, [none], [], h) (fun C => ∃ v, xRet xEX6_isBlank C v ∧ (C.2.2.2 = r.2 ∧ v = some (.int r.1)) ∧ LY r.2) := by
  unfold b_x_isBlank_24 at hf
  refine XS.go (s_iconst (v := 1) rfl rfl) ?_
  refine XS.go (s_goto (tgt := 29) rfl rfl) ?_
  cases hf
  exact XR.retz rfl rfl (by decide) (fun hret => ⟨_, hret, ⟨rfl, rfl⟩, L0⟩)
def f_x_isBlank (a0 : Int32) (h : XH) : Option (Int32 × XH) := (if a0 = 32 then (b_x_isBlank_24 h) else (if a0 = 9 then (b_x_isBlank_24 h) else (if a0 = 10 then (b_x_isBlank_24 h) else (if ¬ a0 = 13 then (some (0, h)) else (b_x_isBlank_24 h)))))
set_option maxRecDepth 20000 in
theorem kf_x_isBlank {l : Launch} {G : XG} {d : Nat} {a0 : Int32} {h : XH} {r : Int32 × XH} (L0 : LY h) (hf : f_x_isBlank a0 h = some r) : XC l G xEX6_isBlank d [.int a0] h (fun v h2 => (h2 = r.2 ∧ v = some (.int r.1)) ∧ LY r.2) := by
  refine XC.stat xsX6_isBlank (Nat.le_of_ble_eq_true rfl) ?_
  unfold f_x_isBlank at hf
  refine XS.go (s_iloadn rfl rfl rfl) ?_
  refine XS.go (s_bipush (v := 32) rfl rfl) ?_
  refine r_icmp_eq (tgt := 24) rfl rfl (fun qc1 => ?_) (fun qc1 => ?_)
  · rw [if_pos qc1] at hf
    exact XR.forget (L2 := [none]) trivial (kb_x_isBlank_24 L0 hf)
  · rw [if_neg qc1] at hf
    refine XS.go (s_iloadn rfl rfl rfl) ?_
    refine XS.go (s_bipush (v := 9) rfl rfl) ?_
    refine r_icmp_eq (tgt := 24) rfl rfl (fun qc2 => ?_) (fun qc2 => ?_)
    · rw [if_pos qc2] at hf
      exact XR.forget (L2 := [none]) trivial (kb_x_isBlank_24 L0 hf)
    · rw [if_neg qc2] at hf
      refine XS.go (s_iloadn rfl rfl rfl) ?_
      refine XS.go (s_bipush (v := 10) rfl rfl) ?_
      refine r_icmp_eq (tgt := 24) rfl rfl (fun qc3 => ?_) (fun qc3 => ?_)
      · rw [if_pos qc3] at hf
        exact XR.forget (L2 := [none]) trivial (kb_x_isBlank_24 L0 hf)
      · rw [if_neg qc3] at hf
        refine XS.go (s_iloadn rfl rfl rfl) ?_
        refine XS.go (s_bipush (v := 13) rfl rfl) ?_
        refine r_icmp_ne (tgt := 28) rfl rfl (fun qc4 => ?_) (fun qc4 => ?_)
        · rw [if_pos qc4] at hf
          refine XS.go (s_iconst (v := 0) rfl rfl) ?_
          cases hf
          exact XR.retz rfl rfl (by decide) (fun hret => ⟨_, hret, ⟨rfl, rfl⟩, L0⟩)
        · rw [if_neg qc4] at hf
          exact XR.forget (L2 := [none]) trivial (kb_x_isBlank_24 L0 hf)
def b_x_skipBlanks_75 (K2 : Nat → Int32 → XH → Option (Unit × XH)) (x1 : Nat) (x2 : Int32) (h : XH) : Option (Unit × XH) := (K2 x1 x2 (hsi h 7 5 ((hi h 7 5) + 1)))
set_option maxRecDepth 20000 in
theorem kb_x_skipBlanks_75 {l : Launch} {G : XG} {d : Nat} {K2 : Nat → Int32 → XH → Option (Unit × XH)} {x1 : Nat} {x2 : Int32} {h : XH} {r : Unit × XH} (hK2 : ∀ (x1 : Nat) (x2 : Int32) (h : XH), LY h → K2 x1 x2 h = some r → XR l G xEX6_skipBlanks (d + 2) (2, [some (.ref 7), some (.ref x1), some (.int x2), none], [], h) (fun C => ∃ v, xRet xEX6_skipBlanks C v ∧ (C.2.2.2 = r.2 ∧ v = none) ∧ LY r.2)) (L0 : LY h) (hf : b_x_skipBlanks_75 K2 x1 x2 h = some r) : XR l G xEX6_skipBlanks (d + 2) (75, [some (.ref 7), some (.ref x1), some (.int x2), none], [], h) (fun C => ∃ v, xRet xEX6_skipBlanks C v ∧ (C.2.2.2 = r.2 ∧ v = none) ∧ LY r.2) := by
  unfold b_x_skipBlanks_75 at hf
  refine XS.go (s_aloadn rfl rfl rfl) ?_
  refine XS.go (s_dup rfl rfl) ?_
  refine XS.go (s_getie rfl xf6_29 (LY.lt L0 (by decide)) (LY.k7 L0) (by decide) rfl rfl) ?_
  refine XS.go (s_iconst (v := 1) rfl rfl) ?_
  refine XS.go (s_iadd rfl) ?_
  refine XS.go (s_puti rfl xf6_29 (LY.lt L0 (by decide)) (LY.k7 L0) (by decide) rfl (Or.inl rfl)) ?_
  refine XS.go (s_goto (tgt := 2) rfl rfl) ?_
  exact XR.forget (L2 := [some (.ref 7), some (.ref x1), some (.int x2), none]) ⟨rfl, ⟨rfl, ⟨rfl, trivial⟩⟩⟩ (hK2 x1 x2 _ (by simp only [LY_si, LY_sj]; exact L0) hf)
def b_x_skipBlanks_67 (K2 : Nat → Int32 → XH → Option (Unit × XH)) (x1 : Nat) (x2 : Int32) (x3 : Int32) (h : XH) : Option (Unit × XH) := (match f_x_isBlank x3 h with | none => none | some r1 => (if ¬ r1.1 = 0 then (b_x_skipBlanks_75 K2 x1 x2 r1.2) else (some ((), r1.2))))
set_option maxRecDepth 20000 in
theorem kb_x_skipBlanks_67 {l : Launch} {G : XG} {d : Nat} {K2 : Nat → Int32 → XH → Option (Unit × XH)} {x1 : Nat} {x2 : Int32} {x3 : Int32} {h : XH} {r : Unit × XH} (hK2 : ∀ (x1 : Nat) (x2 : Int32) (h : XH), LY h → K2 x1 x2 h = some r → XR l G xEX6_skipBlanks (d + 2) (2, [some (.ref 7), some (.ref x1), some (.int x2), none], [], h) (fun C => ∃ v, xRet xEX6_skipBlanks C v ∧ (C.2.2.2 = r.2 ∧ v = none) ∧ LY r.2)) (L0 : LY h) (hf : b_x_skipBlanks_67 K2 x1 x2 x3 h = some r) : XR l G xEX6_skipBlanks (d + 2) (67, [some (.ref 7), some (.ref x1), some (.int x2), some (.int x3)], [], h) (fun C => ∃ v, xRet xEX6_skipBlanks C v ∧ (C.2.2.2 = r.2 ∧ v = none) ∧ LY r.2) := by
  unfold b_x_skipBlanks_67 at hf
  refine XS.go (s_iloadn rfl rfl rfl) ?_
  rcases e2 : f_x_isBlank x3 h with _ | r1
  · rw [e2] at hf; cases hf
  rw [e2] at hf; dsimp only at hf
  refine r_calls rfl xsX6_isBlank xm6_76 (kf_x_isBlank (d := d) L0 e2) rfl rfl (by omega) (by decide) (Nat.le_of_ble_eq_true rfl) ?_
  rintro _ _ ⟨⟨rfl, rfl⟩, L3⟩
  refine r_if_ne (tgt := 75) rfl rfl (fun qc4 => ?_) (fun qc4 => ?_)
  · rw [if_pos qc4] at hf
    exact XR.forget (L2 := [some (.ref 7), some (.ref x1), some (.int x2), none]) ⟨rfl, ⟨rfl, ⟨rfl, trivial⟩⟩⟩ (kb_x_skipBlanks_75 hK2 L3 hf)
  · rw [if_neg qc4] at hf
    cases hf
    exact XR.retv rfl rfl (fun hret => ⟨_, hret, ⟨rfl, rfl⟩, L3⟩)
def b_x_skipBlanks_37 (K2 : Nat → Int32 → XH → Option (Unit × XH)) (x1 : Nat) (y0 : Int32) (h : XH) : Option (Unit × XH) := (b_x_skipBlanks_75 K2 x1 y0 h)
set_option maxRecDepth 20000 in
theorem kb_x_skipBlanks_37 {l : Launch} {G : XG} {d : Nat} {K2 : Nat → Int32 → XH → Option (Unit × XH)} {x1 : Nat} {y0 : Int32} {h : XH} {r : Unit × XH} (hK2 : ∀ (x1 : Nat) (x2 : Int32) (h : XH), LY h → K2 x1 x2 h = some r → XR l G xEX6_skipBlanks (d + 2) (2, [some (.ref 7), some (.ref x1), some (.int x2), none], [], h) (fun C => ∃ v, xRet xEX6_skipBlanks C v ∧ (C.2.2.2 = r.2 ∧ v = none) ∧ LY r.2)) (L0 : LY h) (hf : b_x_skipBlanks_37 K2 x1 y0 h = some r) : XR l G xEX6_skipBlanks (d + 2) (37, [some (.ref 7), some (.ref x1), none, none], [(.int y0)], h) (fun C => ∃ v, xRet xEX6_skipBlanks C v ∧ (C.2.2.2 = r.2 ∧ v = none) ∧ LY r.2) := by
  unfold b_x_skipBlanks_37 at hf
  refine XS.go (s_istoren rfl rfl (Nat.le_of_ble_eq_true rfl)) ?_
  refine XS.go (s_goto (tgt := 75) rfl rfl) ?_
  exact XR.forget (L2 := [some (.ref 7), some (.ref x1), some (.int y0), none]) ⟨rfl, ⟨rfl, ⟨rfl, trivial⟩⟩⟩ (kb_x_skipBlanks_75 hK2 L0 hf)
def s_x_skipBlanks_2 (K2 : Nat → Int32 → XH → Option (Unit × XH)) (x1 : Nat) (x2 : Int32) (h : XH) : Option (Unit × XH) := (if x1 < hz h ∧ hk h x1 = 1 then (if (hi h x1 1) ≤ (hi h 7 5) then (some ((), h)) else (match f_b_octet x1 (hi h 7 5) h with | none => none | some r7 => (if x2 = 0 then (if ¬ r7.1 = 47 then (b_x_skipBlanks_67 K2 x1 x2 r7.1 r7.2) else (if x1 < hz r7.2 ∧ hk r7.2 x1 = 1 then (match f_b_octetOrNone x1 ((hi r7.2 7 5) + 1) r7.2 with | none => none | some r13 => (if ¬ r13.1 = 47 then (b_x_skipBlanks_67 K2 x1 x2 r7.1 r13.2) else (b_x_skipBlanks_75 K2 x1 1 r13.2))) else none)) else (if r7.1 = 10 then (b_x_skipBlanks_37 K2 x1 0 r7.2) else (b_x_skipBlanks_37 K2 x1 1 r7.2))))) else none)
set_option maxRecDepth 20000 in
theorem ks_x_skipBlanks_2 {l : Launch} {G : XG} {d : Nat} {K2 : Nat → Int32 → XH → Option (Unit × XH)} {x1 : Nat} {x2 : Int32} {h : XH} {r : Unit × XH} (hK2 : ∀ (x1 : Nat) (x2 : Int32) (h : XH), LY h → K2 x1 x2 h = some r → XR l G xEX6_skipBlanks (d + 2) (2, [some (.ref 7), some (.ref x1), some (.int x2), none], [], h) (fun C => ∃ v, xRet xEX6_skipBlanks C v ∧ (C.2.2.2 = r.2 ∧ v = none) ∧ LY r.2)) (L0 : LY h) (hf : s_x_skipBlanks_2 K2 x1 x2 h = some r) : XR l G xEX6_skipBlanks (d + 2) (2, [some (.ref 7), some (.ref x1), some (.int x2), none], [], h) (fun C => ∃ v, xRet xEX6_skipBlanks C v ∧ (C.2.2.2 = r.2 ∧ v = none) ∧ LY r.2) := by
  unfold s_x_skipBlanks_2 at hf
  refine XS.go (s_aloadn rfl rfl rfl) ?_
  refine XS.go (s_getie rfl xf6_29 (LY.lt L0 (by decide)) (LY.k7 L0) (by decide) rfl rfl) ?_
  refine XS.go (s_aloadn rfl rfl rfl) ?_
  by_cases qk5 : x1 < hz h ∧ hk h x1 = 1
  rotate_left
  · rw [if_neg qk5] at hf; cases hf
  rw [if_pos qk5] at hf
  refine XS.go (s_getie rfl xf6_70 qk5.1 qk5.2 (by decide) rfl rfl) ?_
  refine r_icmp_ge (tgt := 88) rfl rfl (fun qc6 => ?_) (fun qc6 => ?_)
  · rw [if_pos qc6] at hf
    cases hf
    exact XR.retv rfl rfl (fun hret => ⟨_, hret, ⟨rfl, rfl⟩, L0⟩)
  · rw [if_neg qc6] at hf
    refine XS.go (s_aloadn rfl rfl rfl) ?_
    refine XS.go (s_aloadn rfl rfl rfl) ?_
    refine XS.go (s_getie rfl xf6_29 (LY.lt L0 (by decide)) (LY.k7 L0) (by decide) rfl rfl) ?_
    rcases e8 : f_b_octet x1 (hi h 7 5) h with _ | r7
    · rw [e8] at hf; cases hf
    rw [e8] at hf; dsimp only at hf
    refine r_callv rfl xvX1_octet xm6_73 (kf_b_octet (d := d) L0 e8) qk5.1 qk5.2 (by decide) rfl rfl (by omega) (by decide) (Nat.le_of_ble_eq_true rfl) ?_
    rintro _ _ ⟨⟨rfl, rfl⟩, L9⟩
    refine XS.go (s_istoren rfl rfl (Nat.le_of_ble_eq_true rfl)) ?_
    refine XS.go (s_iloadn rfl rfl rfl) ?_
    refine r_if_eq (tgt := 41) rfl rfl (fun qc10 => ?_) (fun qc10 => ?_)
    · rw [if_pos qc10] at hf
      refine XS.go (s_iloadn rfl rfl rfl) ?_
      refine XS.go (s_bipush (v := 47) rfl rfl) ?_
      refine r_icmp_ne (tgt := 67) rfl rfl (fun qc11 => ?_) (fun qc11 => ?_)
      · rw [if_pos qc11] at hf
        exact XR.forget (L2 := [some (.ref 7), some (.ref x1), some (.int x2), some (.int r7.1)]) ⟨rfl, ⟨rfl, ⟨rfl, ⟨rfl, trivial⟩⟩⟩⟩ (kb_x_skipBlanks_67 hK2 L9 hf)
      · rw [if_neg qc11] at hf
        refine XS.go (s_aloadn rfl rfl rfl) ?_
        refine XS.go (s_aloadn rfl rfl rfl) ?_
        refine XS.go (s_getie rfl xf6_29 (LY.lt L9 (by decide)) (LY.k7 L9) (by decide) rfl rfl) ?_
        refine XS.go (s_iconst (v := 1) rfl rfl) ?_
        refine XS.go (s_iadd rfl) ?_
        by_cases qk12 : x1 < hz r7.2 ∧ hk r7.2 x1 = 1
        rotate_left
        · rw [if_neg qk12] at hf; cases hf
        rw [if_pos qk12] at hf
        rcases e14 : f_b_octetOrNone x1 ((hi r7.2 7 5) + 1) r7.2 with _ | r13
        · rw [e14] at hf; cases hf
        rw [e14] at hf; dsimp only at hf
        refine r_callv rfl xvX1_octetOrNone xm6_40 (kf_b_octetOrNone (d := d) L9 e14) qk12.1 qk12.2 (by decide) rfl rfl (by omega) (by decide) (Nat.le_of_ble_eq_true rfl) ?_
        rintro _ _ ⟨⟨rfl, rfl⟩, L15⟩
        refine XS.go (s_bipush (v := 47) rfl rfl) ?_
        refine r_icmp_ne (tgt := 67) rfl rfl (fun qc16 => ?_) (fun qc16 => ?_)
        · rw [if_pos qc16] at hf
          exact XR.forget (L2 := [some (.ref 7), some (.ref x1), some (.int x2), some (.int r7.1)]) ⟨rfl, ⟨rfl, ⟨rfl, ⟨rfl, trivial⟩⟩⟩⟩ (kb_x_skipBlanks_67 hK2 L15 hf)
        · rw [if_neg qc16] at hf
          refine XS.go (s_iconst (v := 1) rfl rfl) ?_
          refine XS.go (s_istoren rfl rfl (Nat.le_of_ble_eq_true rfl)) ?_
          refine XS.go (s_goto (tgt := 75) rfl rfl) ?_
          exact XR.forget (L2 := [some (.ref 7), some (.ref x1), some (.int 1), none]) ⟨rfl, ⟨rfl, ⟨rfl, trivial⟩⟩⟩ (kb_x_skipBlanks_75 hK2 L15 hf)
    · rw [if_neg qc10] at hf
      refine XS.go (s_iloadn rfl rfl rfl) ?_
      refine XS.go (s_bipush (v := 10) rfl rfl) ?_
      refine r_icmp_eq (tgt := 36) rfl rfl (fun qc17 => ?_) (fun qc17 => ?_)
      · rw [if_pos qc17] at hf
        refine XS.go (s_iconst (v := 0) rfl rfl) ?_
        exact XR.forget (L2 := [some (.ref 7), some (.ref x1), none, none]) ⟨rfl, ⟨rfl, trivial⟩⟩ (kb_x_skipBlanks_37 hK2 L9 hf)
      · rw [if_neg qc17] at hf
        refine XS.go (s_iconst (v := 1) rfl rfl) ?_
        refine XS.go (s_goto (tgt := 37) rfl rfl) ?_
        exact XR.forget (L2 := [some (.ref 7), some (.ref x1), none, none]) ⟨rfl, ⟨rfl, trivial⟩⟩ (kb_x_skipBlanks_37 hK2 L9 hf)
def b_x_skipBlanks_2 : Nat → Nat → Int32 → XH → Option (Unit × XH)
  | 0, _, _, _ => none
  | n + 1, x1, x2, h => s_x_skipBlanks_2 (b_x_skipBlanks_2 n) x1 x2 h
theorem kb_x_skipBlanks_2 {l : Launch} {G : XG} {d : Nat} {n : Nat} {x1 : Nat} {x2 : Int32} {h : XH} {r : Unit × XH} (L0 : LY h) (hf : b_x_skipBlanks_2 n x1 x2 h = some r) : XR l G xEX6_skipBlanks (d + 2) (2, [some (.ref 7), some (.ref x1), some (.int x2), none], [], h) (fun C => ∃ v, xRet xEX6_skipBlanks C v ∧ (C.2.2.2 = r.2 ∧ v = none) ∧ LY r.2) := by
  induction n generalizing x1 x2 h with
  | zero => cases hf
  | succ n ih => exact ks_x_skipBlanks_2 (fun x1 x2 h L0 hf => ih (h := h) (x1 := x1) (x2 := x2) L0 hf) L0 hf
def f_x_skipBlanks (a0 : Nat) (h : XH) : Option (Unit × XH) := (b_x_skipBlanks_2 100000 a0 0 h)
set_option maxRecDepth 20000 in
theorem kf_x_skipBlanks {l : Launch} {G : XG} {d : Nat} {a0 : Nat} {h : XH} {r : Unit × XH} (L0 : LY h) (hf : f_x_skipBlanks a0 h = some r) : XC l G xEX6_skipBlanks (d + 2) [.ref 7, .ref a0] h (fun v h2 => (h2 = r.2 ∧ v = none) ∧ LY r.2) := by
  refine XC.virt xvX6_skipBlanks (Nat.le_of_ble_eq_true rfl) ?_
  unfold f_x_skipBlanks at hf
  refine XS.go (s_iconst (v := 0) rfl rfl) ?_
  refine XS.go (s_istoren rfl rfl (Nat.le_of_ble_eq_true rfl)) ?_
  exact XR.forget (L2 := [some (.ref 7), some (.ref a0), some (.int 0), none]) ⟨rfl, ⟨rfl, ⟨rfl, trivial⟩⟩⟩ (kb_x_skipBlanks_2 L0 hf)
def b_x_takeWhole_156 (y1 : Int32) (y2 : Int32) (y3 : Int64) (h : XH) : Option (Int32 × XH) := (match f_x_keep y1 y2 y3 0 h with | none => none | some r1 => (some (r1.1, r1.2)))
set_option maxRecDepth 20000 in
theorem kb_x_takeWhole_156 {l : Launch} {G : XG} {d : Nat} {y1 : Int32} {y2 : Int32} {y3 : Int64} {h : XH} {r : Int32 × XH} (L0 : LY h) (hf : b_x_takeWhole_156 y1 y2 y3 h = some r) : XR l G xEX6_takeWhole (d + 1) (156, [none, none, none, none, none, none, none, none, none], [(.long y3), (.int y2), (.int y1), (.ref 7)], h) (fun C => ∃ v, xRet xEX6_takeWhole C v ∧ (C.2.2.2 = r.2 ∧ v = some (.int r.1)) ∧ LY r.2) := by
  unfold b_x_takeWhole_156 at hf
  refine XS.go (s_lconst (v := 0) rfl rfl) ?_
  rcases e2 : f_x_keep y1 y2 y3 0 h with _ | r1
  · rw [e2] at hf; cases hf
  rw [e2] at hf; dsimp only at hf
  refine r_callv rfl xvX6_keep xm6_46 (kf_x_keep (d := d) L0 e2) (LY.lt L0 (by decide)) (LY.k7 L0) (by decide) rfl rfl (by omega) (by decide) (Nat.le_of_ble_eq_true rfl) ?_
  rintro _ _ ⟨⟨rfl, rfl⟩, L3⟩
  cases hf
  exact XR.reti rfl rfl (fun hret => ⟨_, hret, ⟨rfl, rfl⟩, L3⟩)
def b_x_takeWhole_143 (x2 : Int32) (x3 : Int32) (x5 : Int64) (y1 : Int32) (h : XH) : Option (Int32 × XH) := (if x3 = 0 then (b_x_takeWhole_156 y1 x2 x5 h) else (b_x_takeWhole_156 y1 x2 (-x5) h))
set_option maxRecDepth 20000 in
theorem kb_x_takeWhole_143 {l : Launch} {G : XG} {d : Nat} {x2 : Int32} {x3 : Int32} {x5 : Int64} {y1 : Int32} {h : XH} {r : Int32 × XH} (L0 : LY h) (hf : b_x_takeWhole_143 x2 x3 x5 y1 h = some r) : XR l G xEX6_takeWhole (d + 1) (143, [none, none, some (.int x2), some (.int x3), none, some (.long x5), none, none, none], [(.int y1), (.ref 7)], h) (fun C => ∃ v, xRet xEX6_takeWhole C v ∧ (C.2.2.2 = r.2 ∧ v = some (.int r.1)) ∧ LY r.2) := by
  unfold b_x_takeWhole_143 at hf
  refine XS.go (s_iloadn rfl rfl rfl) ?_
  refine XS.go (s_iloadn rfl rfl rfl) ?_
  refine r_if_eq (tgt := 154) rfl rfl (fun qc4 => ?_) (fun qc4 => ?_)
  · rw [if_pos qc4] at hf
    refine XS.go (s_lload rfl rfl) ?_
    exact XR.forget (L2 := [none, none, none, none, none, none, none, none, none]) trivial (kb_x_takeWhole_156 L0 hf)
  · rw [if_neg qc4] at hf
    refine XS.go (s_lload rfl rfl) ?_
    refine XS.go (s_lneg rfl) ?_
    refine XS.go (s_goto (tgt := 156) rfl rfl) ?_
    exact XR.forget (L2 := [none, none, none, none, none, none, none, none, none]) trivial (kb_x_takeWhole_156 L0 hf)
def b_x_takeWhole_130 (x2 : Int32) (x3 : Int32) (x5 : Int64) (y0 : Int32) (h : XH) : Option (Int32 × XH) := (if y0 = 0 then (b_x_takeWhole_143 x2 x3 x5 1 h) else (b_x_takeWhole_143 x2 x3 x5 3 h))
set_option maxRecDepth 20000 in
theorem kb_x_takeWhole_130 {l : Launch} {G : XG} {d : Nat} {x2 : Int32} {x3 : Int32} {x5 : Int64} {y0 : Int32} {h : XH} {r : Int32 × XH} (L0 : LY h) (hf : b_x_takeWhole_130 x2 x3 x5 y0 h = some r) : XR l G xEX6_takeWhole (d + 1) (130, [some (.ref 7), none, some (.int x2), some (.int x3), none, some (.long x5), none, none, none], [(.int y0)], h) (fun C => ∃ v, xRet xEX6_takeWhole C v ∧ (C.2.2.2 = r.2 ∧ v = some (.int r.1)) ∧ LY r.2) := by
  unfold b_x_takeWhole_130 at hf
  refine XS.go (s_istore rfl (Nat.le_of_ble_eq_true rfl)) ?_
  refine XS.go (s_aloadn rfl rfl rfl) ?_
  refine XS.go (s_iload rfl rfl) ?_
  refine r_if_eq (tgt := 142) rfl rfl (fun qc5 => ?_) (fun qc5 => ?_)
  · rw [if_pos qc5] at hf
    refine XS.go (s_iconst (v := 1) rfl rfl) ?_
    exact XR.forget (L2 := [none, none, some (.int x2), some (.int x3), none, some (.long x5), none, none, none]) ⟨rfl, ⟨rfl, ⟨rfl, trivial⟩⟩⟩ (kb_x_takeWhole_143 L0 hf)
  · rw [if_neg qc5] at hf
    refine XS.go (s_iconst (v := 3) rfl rfl) ?_
    refine XS.go (s_goto (tgt := 143) rfl rfl) ?_
    exact XR.forget (L2 := [none, none, some (.int x2), some (.int x3), none, some (.long x5), none, none, none]) ⟨rfl, ⟨rfl, ⟨rfl, trivial⟩⟩⟩ (kb_x_takeWhole_143 L0 hf)
def b_x_takeWhole_129 (x2 : Int32) (x3 : Int32) (x5 : Int64) (h : XH) : Option (Int32 × XH) := (b_x_takeWhole_130 x2 x3 x5 0 h)
set_option maxRecDepth 20000 in
theorem kb_x_takeWhole_129 {l : Launch} {G : XG} {d : Nat} {x2 : Int32} {x3 : Int32} {x5 : Int64} {h : XH} {r : Int32 × XH} (L0 : LY h) (hf : b_x_takeWhole_129 x2 x3 x5 h = some r) : XR l G xEX6_takeWhole (d + 1) (129, [some (.ref 7), none, some (.int x2), some (.int x3), none, some (.long x5), none, none, none], [], h) (fun C => ∃ v, xRet xEX6_takeWhole C v ∧ (C.2.2.2 = r.2 ∧ v = some (.int r.1)) ∧ LY r.2) := by
  unfold b_x_takeWhole_129 at hf
  refine XS.go (s_iconst (v := 0) rfl rfl) ?_
  exact XR.forget (L2 := [some (.ref 7), none, some (.int x2), some (.int x3), none, some (.long x5), none, none, none]) ⟨rfl, ⟨rfl, ⟨rfl, ⟨rfl, trivial⟩⟩⟩⟩ (kb_x_takeWhole_130 L0 hf)
def b_x_takeWhole_103 (x2 : Int32) (x3 : Int32) (x4 : Int32) (x5 : Int64) (h : XH) : Option (Int32 × XH) := (if ((hi h 7 5) - x4) < 1 then (b_x_takeWhole_129 x2 x3 x5 h) else (if 18 < ((hi h 7 5) - x4) then (b_x_takeWhole_129 x2 x3 x5 h) else (b_x_takeWhole_130 x2 x3 x5 1 h)))
set_option maxRecDepth 20000 in
theorem kb_x_takeWhole_103 {l : Launch} {G : XG} {d : Nat} {x2 : Int32} {x3 : Int32} {x4 : Int32} {x5 : Int64} {h : XH} {r : Int32 × XH} (L0 : LY h) (hf : b_x_takeWhole_103 x2 x3 x4 x5 h = some r) : XR l G xEX6_takeWhole (d + 1) (103, [some (.ref 7), none, some (.int x2), some (.int x3), some (.int x4), some (.long x5), none, none, none], [], h) (fun C => ∃ v, xRet xEX6_takeWhole C v ∧ (C.2.2.2 = r.2 ∧ v = some (.int r.1)) ∧ LY r.2) := by
  unfold b_x_takeWhole_103 at hf
  refine XS.go (s_aloadn rfl rfl rfl) ?_
  refine XS.go (s_getie rfl xf6_29 (LY.lt L0 (by decide)) (LY.k7 L0) (by decide) rfl rfl) ?_
  refine XS.go (s_iload rfl rfl) ?_
  refine XS.go (s_isub rfl) ?_
  refine XS.go (s_istore rfl (Nat.le_of_ble_eq_true rfl)) ?_
  refine XS.go (s_iload rfl rfl) ?_
  refine XS.go (s_iconst (v := 1) rfl rfl) ?_
  refine r_icmp_lt (tgt := 129) rfl rfl (fun qc6 => ?_) (fun qc6 => ?_)
  · rw [if_pos qc6] at hf
    exact XR.forget (L2 := [some (.ref 7), none, some (.int x2), some (.int x3), none, some (.long x5), none, none, none]) ⟨rfl, ⟨rfl, ⟨rfl, ⟨rfl, trivial⟩⟩⟩⟩ (kb_x_takeWhole_129 L0 hf)
  · rw [if_neg qc6] at hf
    refine XS.go (s_iload rfl rfl) ?_
    refine XS.go (s_bipush (v := 18) rfl rfl) ?_
    refine r_icmp_gt (tgt := 129) rfl rfl (fun qc7 => ?_) (fun qc7 => ?_)
    · rw [if_pos qc7] at hf
      exact XR.forget (L2 := [some (.ref 7), none, some (.int x2), some (.int x3), none, some (.long x5), none, none, none]) ⟨rfl, ⟨rfl, ⟨rfl, ⟨rfl, trivial⟩⟩⟩⟩ (kb_x_takeWhole_129 L0 hf)
    · rw [if_neg qc7] at hf
      refine XS.go (s_iconst (v := 1) rfl rfl) ?_
      refine XS.go (s_goto (tgt := 130) rfl rfl) ?_
      exact XR.forget (L2 := [some (.ref 7), none, some (.int x2), some (.int x3), none, some (.long x5), none, none, none]) ⟨rfl, ⟨rfl, ⟨rfl, ⟨rfl, trivial⟩⟩⟩⟩ (kb_x_takeWhole_130 L0 hf)
def s_x_takeWhole_44 (K44 : Nat → Int32 → Int32 → Int32 → Int64 → XH → Option (Int32 × XH)) (x1 : Nat) (x2 : Int32) (x3 : Int32) (x4 : Int32) (x5 : Int64) (h : XH) : Option (Int32 × XH) := (if x1 < hz h ∧ hk h x1 = 1 then (if (hi h x1 1) ≤ (hi h 7 5) then (b_x_takeWhole_103 x2 x3 x4 x5 h) else (match f_b_octet x1 (hi h 7 5) h with | none => none | some r10 => (match f_x_isDigit r10.1 r10.2 with | none => none | some r13 => (if r13.1 = 0 then (b_x_takeWhole_103 x2 x3 x4 x5 r13.2) else (if x1 < hz r13.2 ∧ hk r13.2 x1 = 1 then (match f_b_octet x1 (hi r13.2 7 5) r13.2 with | none => none | some r18 => (K44 x1 x2 x3 x4 ((x5 * 10) + (Int32.toInt64 (r18.1 - 48))) (hsi r18.2 7 5 ((hi r18.2 7 5) + 1)))) else none))))) else none)
set_option maxRecDepth 20000 in
theorem ks_x_takeWhole_44 {l : Launch} {G : XG} {d : Nat} {K44 : Nat → Int32 → Int32 → Int32 → Int64 → XH → Option (Int32 × XH)} {x1 : Nat} {x2 : Int32} {x3 : Int32} {x4 : Int32} {x5 : Int64} {h : XH} {r : Int32 × XH} (hK44 : ∀ (x1 : Nat) (x2 : Int32) (x3 : Int32) (x4 : Int32) (x5 : Int64) (h : XH), LY h → K44 x1 x2 x3 x4 x5 h = some r → XR l G xEX6_takeWhole (d + 1) (44, [some (.ref 7), some (.ref x1), some (.int x2), some (.int x3), some (.int x4), some (.long x5), none, none, none], [], h) (fun C => ∃ v, xRet xEX6_takeWhole C v ∧ (C.2.2.2 = r.2 ∧ v = some (.int r.1)) ∧ LY r.2)) (L0 : LY h) (hf : s_x_takeWhole_44 K44 x1 x2 x3 x4 x5 h = some r) : XR l G xEX6_takeWhole (d + 1) (44, [some (.ref 7), some (.ref x1), some (.int x2), some (.int x3), some (.int x4), some (.long x5), none, none, none], [], h) (fun C => ∃ v, xRet xEX6_takeWhole C v ∧ (C.2.2.2 = r.2 ∧ v = some (.int r.1)) ∧ LY r.2) := by
  unfold s_x_takeWhole_44 at hf
  refine XS.go (s_aloadn rfl rfl rfl) ?_
  refine XS.go (s_getie rfl xf6_29 (LY.lt L0 (by decide)) (LY.k7 L0) (by decide) rfl rfl) ?_
  refine XS.go (s_aloadn rfl rfl rfl) ?_
  by_cases qk8 : x1 < hz h ∧ hk h x1 = 1
  rotate_left
  · rw [if_neg qk8] at hf; cases hf
  rw [if_pos qk8] at hf
  refine XS.go (s_getie rfl xf6_70 qk8.1 qk8.2 (by decide) rfl rfl) ?_
  refine r_icmp_ge (tgt := 103) rfl rfl (fun qc9 => ?_) (fun qc9 => ?_)
  · rw [if_pos qc9] at hf
    exact XR.forget (L2 := [some (.ref 7), none, some (.int x2), some (.int x3), some (.int x4), some (.long x5), none, none, none]) ⟨rfl, ⟨rfl, ⟨rfl, ⟨rfl, ⟨rfl, trivial⟩⟩⟩⟩⟩ (kb_x_takeWhole_103 L0 hf)
  · rw [if_neg qc9] at hf
    refine XS.go (s_aloadn rfl rfl rfl) ?_
    refine XS.go (s_aloadn rfl rfl rfl) ?_
    refine XS.go (s_getie rfl xf6_29 (LY.lt L0 (by decide)) (LY.k7 L0) (by decide) rfl rfl) ?_
    rcases e11 : f_b_octet x1 (hi h 7 5) h with _ | r10
    · rw [e11] at hf; cases hf
    rw [e11] at hf; dsimp only at hf
    refine r_callv rfl xvX1_octet xm6_73 (kf_b_octet (d := d) L0 e11) qk8.1 qk8.2 (by decide) rfl rfl (by omega) (by decide) (Nat.le_of_ble_eq_true rfl) ?_
    rintro _ _ ⟨⟨rfl, rfl⟩, L12⟩
    rcases e14 : f_x_isDigit r10.1 r10.2 with _ | r13
    · rw [e14] at hf; cases hf
    rw [e14] at hf; dsimp only at hf
    refine r_calls rfl xsX6_isDigit xm6_57 (kf_x_isDigit (d := d) L12 e14) rfl rfl (by omega) (by decide) (Nat.le_of_ble_eq_true rfl) ?_
    rintro _ _ ⟨⟨rfl, rfl⟩, L15⟩
    refine r_if_eq (tgt := 103) rfl rfl (fun qc16 => ?_) (fun qc16 => ?_)
    · rw [if_pos qc16] at hf
      exact XR.forget (L2 := [some (.ref 7), none, some (.int x2), some (.int x3), some (.int x4), some (.long x5), none, none, none]) ⟨rfl, ⟨rfl, ⟨rfl, ⟨rfl, ⟨rfl, trivial⟩⟩⟩⟩⟩ (kb_x_takeWhole_103 L15 hf)
    · rw [if_neg qc16] at hf
      refine XS.go (s_lload rfl rfl) ?_
      refine XS.go (s_ldc2 rfl (lg_4 175 rfl rfl)) ?_
      refine XS.go (s_lmul rfl) ?_
      refine XS.go (s_aloadn rfl rfl rfl) ?_
      refine XS.go (s_aloadn rfl rfl rfl) ?_
      refine XS.go (s_getie rfl xf6_29 (LY.lt L15 (by decide)) (LY.k7 L15) (by decide) rfl rfl) ?_
      by_cases qk17 : x1 < hz r13.2 ∧ hk r13.2 x1 = 1
      rotate_left
      · rw [if_neg qk17] at hf; cases hf
      rw [if_pos qk17] at hf
      rcases e19 : f_b_octet x1 (hi r13.2 7 5) r13.2 with _ | r18
      · rw [e19] at hf; cases hf
      rw [e19] at hf; dsimp only at hf
      refine r_callv rfl xvX1_octet xm6_73 (kf_b_octet (d := d) L15 e19) qk17.1 qk17.2 (by decide) rfl rfl (by omega) (by decide) (Nat.le_of_ble_eq_true rfl) ?_
      rintro _ _ ⟨⟨rfl, rfl⟩, L20⟩
      refine XS.go (s_bipush (v := 48) rfl rfl) ?_
      refine XS.go (s_isub rfl) ?_
      refine XS.go (s_i2l rfl) ?_
      refine XS.go (s_ladd rfl) ?_
      refine XS.go (s_lstore rfl (Nat.le_of_ble_eq_true rfl)) ?_
      refine XS.go (s_aloadn rfl rfl rfl) ?_
      refine XS.go (s_dup rfl rfl) ?_
      refine XS.go (s_getie rfl xf6_29 (LY.lt L20 (by decide)) (LY.k7 L20) (by decide) rfl rfl) ?_
      refine XS.go (s_iconst (v := 1) rfl rfl) ?_
      refine XS.go (s_iadd rfl) ?_
      refine XS.go (s_puti rfl xf6_29 (LY.lt L20 (by decide)) (LY.k7 L20) (by decide) rfl (Or.inl rfl)) ?_
      refine XS.go (s_goto (tgt := 44) rfl rfl) ?_
      exact XR.forget (L2 := [some (.ref 7), some (.ref x1), some (.int x2), some (.int x3), some (.int x4), some (.long ((x5 * 10) + (Int32.toInt64 (r18.1 - 48)))), none, none, none]) ⟨rfl, ⟨rfl, ⟨rfl, ⟨rfl, ⟨rfl, ⟨rfl, trivial⟩⟩⟩⟩⟩⟩ (hK44 x1 x2 x3 x4 ((x5 * 10) + (Int32.toInt64 (r18.1 - 48))) _ (by simp only [LY_si, LY_sj]; exact L20) hf)
def b_x_takeWhole_44 : Nat → Nat → Int32 → Int32 → Int32 → Int64 → XH → Option (Int32 × XH)
  | 0, _, _, _, _, _, _ => none
  | n + 1, x1, x2, x3, x4, x5, h => s_x_takeWhole_44 (b_x_takeWhole_44 n) x1 x2 x3 x4 x5 h
theorem kb_x_takeWhole_44 {l : Launch} {G : XG} {d : Nat} {n : Nat} {x1 : Nat} {x2 : Int32} {x3 : Int32} {x4 : Int32} {x5 : Int64} {h : XH} {r : Int32 × XH} (L0 : LY h) (hf : b_x_takeWhole_44 n x1 x2 x3 x4 x5 h = some r) : XR l G xEX6_takeWhole (d + 1) (44, [some (.ref 7), some (.ref x1), some (.int x2), some (.int x3), some (.int x4), some (.long x5), none, none, none], [], h) (fun C => ∃ v, xRet xEX6_takeWhole C v ∧ (C.2.2.2 = r.2 ∧ v = some (.int r.1)) ∧ LY r.2) := by
  induction n generalizing x1 x2 x3 x4 x5 h with
  | zero => cases hf
  | succ n ih => exact ks_x_takeWhole_44 (fun x1 x2 x3 x4 x5 h L0 hf => ih (h := h) (x1 := x1) (x2 := x2) (x3 := x3) (x4 := x4) (x5 := x5) L0 hf) L0 hf
def b_x_takeWhole_35 (x1 : Nat) (x2 : Int32) (x3 : Int32) (h : XH) : Option (Int32 × XH) := (b_x_takeWhole_44 100000 x1 x2 x3 (hi h 7 5) 0 h)
set_option maxRecDepth 20000 in
theorem kb_x_takeWhole_35 {l : Launch} {G : XG} {d : Nat} {x1 : Nat} {x2 : Int32} {x3 : Int32} {h : XH} {r : Int32 × XH} (L0 : LY h) (hf : b_x_takeWhole_35 x1 x2 x3 h = some r) : XR l G xEX6_takeWhole (d + 1) (35, [some (.ref 7), some (.ref x1), some (.int x2), some (.int x3), none, none, none, none, none], [], h) (fun C => ∃ v, xRet xEX6_takeWhole C v ∧ (C.2.2.2 = r.2 ∧ v = some (.int r.1)) ∧ LY r.2) := by
  unfold b_x_takeWhole_35 at hf
  refine XS.go (s_aloadn rfl rfl rfl) ?_
  refine XS.go (s_getie rfl xf6_29 (LY.lt L0 (by decide)) (LY.k7 L0) (by decide) rfl rfl) ?_
  refine XS.go (s_istore rfl (Nat.le_of_ble_eq_true rfl)) ?_
  refine XS.go (s_lconst (v := 0) rfl rfl) ?_
  refine XS.go (s_lstore rfl (Nat.le_of_ble_eq_true rfl)) ?_
  exact XR.forget (L2 := [some (.ref 7), some (.ref x1), some (.int x2), some (.int x3), some (.int (hi h 7 5)), some (.long 0), none, none, none]) ⟨rfl, ⟨rfl, ⟨rfl, ⟨rfl, ⟨rfl, ⟨rfl, trivial⟩⟩⟩⟩⟩⟩ (kb_x_takeWhole_44 L0 hf)
def b_x_takeWhole_20 (x1 : Nat) (x2 : Int32) (y0 : Int32) (h : XH) : Option (Int32 × XH) := (if y0 = 0 then (b_x_takeWhole_35 x1 x2 y0 h) else (b_x_takeWhole_35 x1 x2 y0 (hsi h 7 5 ((hi h 7 5) + 1))))
set_option maxRecDepth 20000 in
theorem kb_x_takeWhole_20 {l : Launch} {G : XG} {d : Nat} {x1 : Nat} {x2 : Int32} {y0 : Int32} {h : XH} {r : Int32 × XH} (L0 : LY h) (hf : b_x_takeWhole_20 x1 x2 y0 h = some r) : XR l G xEX6_takeWhole (d + 1) (20, [some (.ref 7), some (.ref x1), some (.int x2), none, none, none, none, none, none], [(.int y0)], h) (fun C => ∃ v, xRet xEX6_takeWhole C v ∧ (C.2.2.2 = r.2 ∧ v = some (.int r.1)) ∧ LY r.2) := by
  unfold b_x_takeWhole_20 at hf
  refine XS.go (s_istoren rfl rfl (Nat.le_of_ble_eq_true rfl)) ?_
  refine XS.go (s_iloadn rfl rfl rfl) ?_
  refine r_if_eq (tgt := 35) rfl rfl (fun qc21 => ?_) (fun qc21 => ?_)
  · rw [if_pos qc21] at hf
    exact XR.forget (L2 := [some (.ref 7), some (.ref x1), some (.int x2), some (.int y0), none, none, none, none, none]) ⟨rfl, ⟨rfl, ⟨rfl, ⟨rfl, trivial⟩⟩⟩⟩ (kb_x_takeWhole_35 L0 hf)
  · rw [if_neg qc21] at hf
    refine XS.go (s_aloadn rfl rfl rfl) ?_
    refine XS.go (s_dup rfl rfl) ?_
    refine XS.go (s_getie rfl xf6_29 (LY.lt L0 (by decide)) (LY.k7 L0) (by decide) rfl rfl) ?_
    refine XS.go (s_iconst (v := 1) rfl rfl) ?_
    refine XS.go (s_iadd rfl) ?_
    refine XS.go (s_puti rfl xf6_29 (LY.lt L0 (by decide)) (LY.k7 L0) (by decide) rfl (Or.inl rfl)) ?_
    exact XR.forget (L2 := [some (.ref 7), some (.ref x1), some (.int x2), some (.int y0), none, none, none, none, none]) ⟨rfl, ⟨rfl, ⟨rfl, ⟨rfl, trivial⟩⟩⟩⟩ (kb_x_takeWhole_35 (by simp only [LY_si, LY_sj]; exact L0) hf)
def f_x_takeWhole (a0 : Nat) (h : XH) : Option (Int32 × XH) := (if a0 < hz h ∧ hk h a0 = 1 then (match f_b_octet a0 (hi h 7 5) h with | none => none | some r23 => (if ¬ r23.1 = 45 then (b_x_takeWhole_20 a0 (hi h 7 5) 0 r23.2) else (b_x_takeWhole_20 a0 (hi h 7 5) 1 r23.2))) else none)
set_option maxRecDepth 20000 in
theorem kf_x_takeWhole {l : Launch} {G : XG} {d : Nat} {a0 : Nat} {h : XH} {r : Int32 × XH} (L0 : LY h) (hf : f_x_takeWhole a0 h = some r) : XC l G xEX6_takeWhole (d + 1) [.ref 7, .ref a0] h (fun v h2 => (h2 = r.2 ∧ v = some (.int r.1)) ∧ LY r.2) := by
  refine XC.virt xvX6_takeWhole (Nat.le_of_ble_eq_true rfl) ?_
  unfold f_x_takeWhole at hf
  refine XS.go (s_aloadn rfl rfl rfl) ?_
  refine XS.go (s_getie rfl xf6_29 (LY.lt L0 (by decide)) (LY.k7 L0) (by decide) rfl rfl) ?_
  refine XS.go (s_istoren rfl rfl (Nat.le_of_ble_eq_true rfl)) ?_
  refine XS.go (s_aloadn rfl rfl rfl) ?_
  refine XS.go (s_iloadn rfl rfl rfl) ?_
  by_cases qk22 : a0 < hz h ∧ hk h a0 = 1
  rotate_left
  · rw [if_neg qk22] at hf; cases hf
  rw [if_pos qk22] at hf
  rcases e24 : f_b_octet a0 (hi h 7 5) h with _ | r23
  · rw [e24] at hf; cases hf
  rw [e24] at hf; dsimp only at hf
  refine r_callv rfl xvX1_octet xm6_73 (kf_b_octet (d := d) L0 e24) qk22.1 qk22.2 (by decide) rfl rfl (by omega) (by decide) (Nat.le_of_ble_eq_true rfl) ?_
  rintro _ _ ⟨⟨rfl, rfl⟩, L25⟩
  refine XS.go (s_bipush (v := 45) rfl rfl) ?_
  refine r_icmp_ne (tgt := 19) rfl rfl (fun qc26 => ?_) (fun qc26 => ?_)
  · rw [if_pos qc26] at hf
    refine XS.go (s_iconst (v := 0) rfl rfl) ?_
    exact XR.forget (L2 := [some (.ref 7), some (.ref a0), some (.int (hi h 7 5)), none, none, none, none, none, none]) ⟨rfl, ⟨rfl, ⟨rfl, trivial⟩⟩⟩ (kb_x_takeWhole_20 L25 hf)
  · rw [if_neg qc26] at hf
    refine XS.go (s_iconst (v := 1) rfl rfl) ?_
    refine XS.go (s_goto (tgt := 20) rfl rfl) ?_
    exact XR.forget (L2 := [some (.ref 7), some (.ref a0), some (.int (hi h 7 5)), none, none, none, none, none, none]) ⟨rfl, ⟨rfl, ⟨rfl, trivial⟩⟩⟩ (kb_x_takeWhole_20 L25 hf)
def b_x_isWordSign_14 (h : XH) : Option (Int32 × XH) := (some (1, h))
set_option maxRecDepth 20000 in
theorem kb_x_isWordSign_14 {l : Launch} {G : XG} {d : Nat} {h : XH} {r : Int32 × XH} (L0 : LY h) (hf : b_x_isWordSign_14 h = some r) : XR l G xEX6_isWordSign (d + 1) (14, [none], [], h) (fun C => ∃ v, xRet xEX6_isWordSign C v ∧ (C.2.2.2 = r.2 ∧ v = some (.int r.1)) ∧ LY r.2) := by
  unfold b_x_isWordSign_14 at hf
  refine XS.go (s_iconst (v := 1) rfl rfl) ?_
  refine XS.go (s_goto (tgt := 19) rfl rfl) ?_
  cases hf
  exact XR.retz rfl rfl (by decide) (fun hret => ⟨_, hret, ⟨rfl, rfl⟩, L0⟩)
def f_x_isWordSign (a0 : Int32) (h : XH) : Option (Int32 × XH) := (match f_x_isLetter a0 h with | none => none | some r1 => (if ¬ r1.1 = 0 then (b_x_isWordSign_14 r1.2) else (match f_x_isDigit a0 r1.2 with | none => none | some r5 => (if r5.1 = 0 then (some (0, r5.2)) else (b_x_isWordSign_14 r5.2)))))
set_option maxRecDepth 20000 in
theorem kf_x_isWordSign {l : Launch} {G : XG} {d : Nat} {a0 : Int32} {h : XH} {r : Int32 × XH} (L0 : LY h) (hf : f_x_isWordSign a0 h = some r) : XC l G xEX6_isWordSign (d + 1) [.int a0] h (fun v h2 => (h2 = r.2 ∧ v = some (.int r.1)) ∧ LY r.2) := by
  refine XC.stat xsX6_isWordSign (Nat.le_of_ble_eq_true rfl) ?_
  unfold f_x_isWordSign at hf
  refine XS.go (s_iloadn rfl rfl rfl) ?_
  rcases e2 : f_x_isLetter a0 h with _ | r1
  · rw [e2] at hf; cases hf
  rw [e2] at hf; dsimp only at hf
  refine r_calls rfl xsX6_isLetter xm6_50 (kf_x_isLetter (d := d) L0 e2) rfl rfl (by omega) (by decide) (Nat.le_of_ble_eq_true rfl) ?_
  rintro _ _ ⟨⟨rfl, rfl⟩, L3⟩
  refine r_if_ne (tgt := 14) rfl rfl (fun qc4 => ?_) (fun qc4 => ?_)
  · rw [if_pos qc4] at hf
    exact XR.forget (L2 := [none]) trivial (kb_x_isWordSign_14 L3 hf)
  · rw [if_neg qc4] at hf
    refine XS.go (s_iloadn rfl rfl rfl) ?_
    rcases e6 : f_x_isDigit a0 r1.2 with _ | r5
    · rw [e6] at hf; cases hf
    rw [e6] at hf; dsimp only at hf
    refine r_calls rfl xsX6_isDigit xm6_57 (kf_x_isDigit (d := d) L3 e6) rfl rfl (by omega) (by decide) (Nat.le_of_ble_eq_true rfl) ?_
    rintro _ _ ⟨⟨rfl, rfl⟩, L7⟩
    refine r_if_eq (tgt := 18) rfl rfl (fun qc8 => ?_) (fun qc8 => ?_)
    · rw [if_pos qc8] at hf
      refine XS.go (s_iconst (v := 0) rfl rfl) ?_
      cases hf
      exact XR.retz rfl rfl (by decide) (fun hret => ⟨_, hret, ⟨rfl, rfl⟩, L7⟩)
    · rw [if_neg qc8] at hf
      exact XR.forget (L2 := [none]) trivial (kb_x_isWordSign_14 L7 hf)
def f_p_init (t : Nat) (a0 : Nat) (a1 : Nat) (h : XH) : Option (Unit × XH) := (if hz h < 1000000 then (if t < hz (hnew h 104 321) ∧ hk (hnew h 104 321) t = 7 then (if 1317 ≤ t then (if t < hz (hsr (hnew h 104 321) t 2 (some (hz h))) ∧ hk (hsr (hnew h 104 321) t 2 (some (hz h))) t = 7 then (if hz (hsi (hsr (hnew h 104 321) t 2 (some (hz h))) t 3 0) < 1000000 then (if (hz (hsi (hsr (hnew h 104 321) t 2 (some (hz h))) t 3 0)) < hz (hnew (hsi (hsr (hnew h 104 321) t 2 (some (hz h))) t 3 0) 3 9) ∧ hk (hnew (hsi (hsr (hnew h 104 321) t 2 (some (hz h))) t 3 0) 3 9) (hz (hsi (hsr (hnew h 104 321) t 2 (some (hz h))) t 3 0)) = 3 then (match f_f_init (hz (hsi (hsr (hnew h 104 321) t 2 (some (hz h))) t 3 0)) (hnew (hsi (hsr (hnew h 104 321) t 2 (some (hz h))) t 3 0) 3 9) with | none => none | some r10 => (if t < hz r10.2 ∧ hk r10.2 t = 7 then (if 1317 ≤ t then (if t < hz (hsr r10.2 t 4 (some (hz (hsi (hsr (hnew h 104 321) t 2 (some (hz h))) t 3 0)))) ∧ hk (hsr r10.2 t 4 (some (hz (hsi (hsr (hnew h 104 321) t 2 (some (hz h))) t 3 0)))) t = 7 then (if 1317 ≤ t then (if t < hz (hsr (hsi (hsi (hsi (hsi (hsr r10.2 t 4 (some (hz (hsi (hsr (hnew h 104 321) t 2 (some (hz h))) t 3 0)))) t 5 0) t 6 0) t 7 0) t 8 0) t 0 (some a0)) ∧ hk (hsr (hsi (hsi (hsi (hsi (hsr r10.2 t 4 (some (hz (hsi (hsr (hnew h 104 321) t 2 (some (hz h))) t 3 0)))) t 5 0) t 6 0) t 7 0) t 8 0) t 0 (some a0)) t = 7 then (if 1317 ≤ t then (some ((), (hsr (hsr (hsi (hsi (hsi (hsi (hsr r10.2 t 4 (some (hz (hsi (hsr (hnew h 104 321) t 2 (some (hz h))) t 3 0)))) t 5 0) t 6 0) t 7 0) t 8 0) t 0 (some a0)) t 1 (some a1)))) else none) else none) else none) else none) else none) else none)) else none) else none) else none) else none) else none) else none)
set_option maxRecDepth 20000 in
theorem kf_p_init {l : Launch} {G : XG} {d : Nat} {t : Nat} {a0 : Nat} {a1 : Nat} {h : XH} {r : Unit × XH} (L0 : LY h) (hf : f_p_init t a0 a1 h = some r) : XC l G xEX7_init (d + 2) [.ref t, .ref a0, .ref a1] h (fun v h2 => (h2 = r.2 ∧ v = none) ∧ LY r.2) := by
  refine XC.init xnX7_init (Nat.le_of_ble_eq_true rfl) ?_
  unfold f_p_init at hf
  refine XS.go (s_aloadn rfl rfl rfl) ?_
  refine XS.go (s_objInit rfl (lg_5 1 rfl rfl) (lg_1 33 rfl rfl) (lg_1 34 rfl rfl) (by omega) (Nat.le_of_ble_eq_true rfl)) ?_
  refine XS.go (s_aloadn rfl rfl rfl) ?_
  refine XS.go (s_sipush (v := 321) rfl rfl) ?_
  by_cases qk1 : hz h < 1000000
  rotate_left
  · rw [if_neg qk1] at hf; cases hf
  rw [if_pos qk1] at hf
  have L2 : LY (hnew h 104 321) := LY.new L0 qk1
  refine XS.go (s_newf rfl (lg_5 2 rfl rfl) (N := 321) (by decide) rfl (by decide) qk1) ?_
  by_cases qk3 : t < hz (hnew h 104 321) ∧ hk (hnew h 104 321) t = 7
  rotate_left
  · rw [if_neg qk3] at hf; cases hf
  rw [if_pos qk3] at hf
  by_cases qk4 : 1317 ≤ t
  rotate_left
  · rw [if_neg qk4] at hf; cases hf
  rw [if_pos qk4] at hf
  have L5 : LY (hsr (hnew h 104 321) t 2 (some (hz h))) := LY.srv L2 qk4
  refine XS.go (s_putr rfl xf7_13 qk3.1 qk3.2 (by decide) rfl (Or.inr ⟨rfl, rfl⟩)) ?_
  refine XS.go (s_aloadn rfl rfl rfl) ?_
  refine XS.go (s_iconst (v := 0) rfl rfl) ?_
  by_cases qk6 : t < hz (hsr (hnew h 104 321) t 2 (some (hz h))) ∧ hk (hsr (hnew h 104 321) t 2 (some (hz h))) t = 7
  rotate_left
  · rw [if_neg qk6] at hf; cases hf
  rw [if_pos qk6] at hf
  refine XS.go (s_puti rfl xf7_17 qk6.1 qk6.2 (by decide) rfl (Or.inl rfl)) ?_
  refine XS.go (s_aloadn rfl rfl rfl) ?_
  by_cases qk7 : hz (hsi (hsr (hnew h 104 321) t 2 (some (hz h))) t 3 0) < 1000000
  rotate_left
  · rw [if_neg qk7] at hf; cases hf
  rw [if_pos qk7] at hf
  have L8 : LY (hnew (hsi (hsr (hnew h 104 321) t 2 (some (hz h))) t 3 0) 3 9) := LY.new (by simp only [LY_si, LY_sj]; exact L5) qk7
  refine XS.go (s_new (ci := 3) rfl (lg_5 2 rfl rfl) (by decide) rfl qk7) ?_
  refine XS.go (s_dup rfl rfl) ?_
  by_cases qk9 : (hz (hsi (hsr (hnew h 104 321) t 2 (some (hz h))) t 3 0)) < hz (hnew (hsi (hsr (hnew h 104 321) t 2 (some (hz h))) t 3 0) 3 9) ∧ hk (hnew (hsi (hsr (hnew h 104 321) t 2 (some (hz h))) t 3 0) 3 9) (hz (hsi (hsr (hnew h 104 321) t 2 (some (hz h))) t 3 0)) = 3
  rotate_left
  · rw [if_neg qk9] at hf; cases hf
  rw [if_pos qk9] at hf
  rcases e11 : f_f_init (hz (hsi (hsr (hnew h 104 321) t 2 (some (hz h))) t 3 0)) (hnew (hsi (hsr (hnew h 104 321) t 2 (some (hz h))) t 3 0) 3 9) with _ | r10
  · rw [e11] at hf; cases hf
  rw [e11] at hf; dsimp only at hf
  refine r_callin rfl xnX3_init rfl (List.mem_of_getElem? (i := 12) rfl) (kf_f_init (d := d) L8 e11) rfl rfl (by omega) (by decide) (Nat.le_of_ble_eq_true rfl) ?_
  rintro _ _ ⟨⟨rfl, rfl⟩, L12⟩
  by_cases qk13 : t < hz r10.2 ∧ hk r10.2 t = 7
  rotate_left
  · rw [if_neg qk13] at hf; cases hf
  rw [if_pos qk13] at hf
  by_cases qk14 : 1317 ≤ t
  rotate_left
  · rw [if_neg qk14] at hf; cases hf
  rw [if_pos qk14] at hf
  have L15 : LY (hsr r10.2 t 4 (some (hz (hsi (hsr (hnew h 104 321) t 2 (some (hz h))) t 3 0)))) := LY.srv L12 qk14
  refine XS.go (s_putr rfl xf7_22 qk13.1 qk13.2 (by decide) rfl (Or.inr ⟨rfl, rfl⟩)) ?_
  refine XS.go (s_aloadn rfl rfl rfl) ?_
  refine XS.go (s_iconst (v := 0) rfl rfl) ?_
  by_cases qk16 : t < hz (hsr r10.2 t 4 (some (hz (hsi (hsr (hnew h 104 321) t 2 (some (hz h))) t 3 0)))) ∧ hk (hsr r10.2 t 4 (some (hz (hsi (hsr (hnew h 104 321) t 2 (some (hz h))) t 3 0)))) t = 7
  rotate_left
  · rw [if_neg qk16] at hf; cases hf
  rw [if_pos qk16] at hf
  refine XS.go (s_puti rfl xf7_26 qk16.1 qk16.2 (by decide) rfl (Or.inl rfl)) ?_
  refine XS.go (s_aloadn rfl rfl rfl) ?_
  refine XS.go (s_iconst (v := 0) rfl rfl) ?_
  refine XS.go (s_puti rfl xf7_31 (by simp only [hz_hsi, hk_hsi, hz_hsj, hk_hsj]; exact qk16.1) (by simp only [hz_hsi, hk_hsi, hz_hsj, hk_hsj]; exact qk16.2) (by decide) rfl (Or.inl rfl)) ?_
  refine XS.go (s_aloadn rfl rfl rfl) ?_
  refine XS.go (s_iconst (v := 0) rfl rfl) ?_
  refine XS.go (s_puti rfl xf7_34 (by simp only [hz_hsi, hk_hsi, hz_hsj, hk_hsj]; exact qk16.1) (by simp only [hz_hsi, hk_hsi, hz_hsj, hk_hsj]; exact qk16.2) (by decide) rfl (Or.inl rfl)) ?_
  refine XS.go (s_aloadn rfl rfl rfl) ?_
  refine XS.go (s_iconst (v := 0) rfl rfl) ?_
  refine XS.go (s_puti rfl xf7_37 (by simp only [hz_hsi, hk_hsi, hz_hsj, hk_hsj]; exact qk16.1) (by simp only [hz_hsi, hk_hsi, hz_hsj, hk_hsj]; exact qk16.2) (by decide) rfl (Or.inl rfl)) ?_
  refine XS.go (s_aloadn rfl rfl rfl) ?_
  refine XS.go (s_aloadn rfl rfl rfl) ?_
  by_cases qk17 : 1317 ≤ t
  rotate_left
  · rw [if_neg qk17] at hf; cases hf
  rw [if_pos qk17] at hf
  have L18 : LY (hsr (hsi (hsi (hsi (hsi (hsr r10.2 t 4 (some (hz (hsi (hsr (hnew h 104 321) t 2 (some (hz h))) t 3 0)))) t 5 0) t 6 0) t 7 0) t 8 0) t 0 (some a0)) := LY.srv (by simp only [LY_si, LY_sj]; exact L15) qk17
  refine XS.go (s_putr rfl xf7_40 (by simp only [hz_hsi, hk_hsi, hz_hsj, hk_hsj]; exact qk16.1) (by simp only [hz_hsi, hk_hsi, hz_hsj, hk_hsj]; exact qk16.2) (by decide) rfl (Or.inr ⟨rfl, rfl⟩)) ?_
  refine XS.go (s_aloadn rfl rfl rfl) ?_
  refine XS.go (s_aloadn rfl rfl rfl) ?_
  by_cases qk19 : t < hz (hsr (hsi (hsi (hsi (hsi (hsr r10.2 t 4 (some (hz (hsi (hsr (hnew h 104 321) t 2 (some (hz h))) t 3 0)))) t 5 0) t 6 0) t 7 0) t 8 0) t 0 (some a0)) ∧ hk (hsr (hsi (hsi (hsi (hsi (hsr r10.2 t 4 (some (hz (hsi (hsr (hnew h 104 321) t 2 (some (hz h))) t 3 0)))) t 5 0) t 6 0) t 7 0) t 8 0) t 0 (some a0)) t = 7
  rotate_left
  · rw [if_neg qk19] at hf; cases hf
  rw [if_pos qk19] at hf
  by_cases qk20 : 1317 ≤ t
  rotate_left
  · rw [if_neg qk20] at hf; cases hf
  rw [if_pos qk20] at hf
  have L21 : LY (hsr (hsr (hsi (hsi (hsi (hsi (hsr r10.2 t 4 (some (hz (hsi (hsr (hnew h 104 321) t 2 (some (hz h))) t 3 0)))) t 5 0) t 6 0) t 7 0) t 8 0) t 0 (some a0)) t 1 (some a1)) := LY.srv L18 qk20
  refine XS.go (s_putr rfl xf7_44 qk19.1 qk19.2 (by decide) rfl (Or.inr ⟨rfl, rfl⟩)) ?_
  cases hf
  exact XR.retv rfl rfl (fun hret => ⟨_, hret, ⟨rfl, rfl⟩, L21⟩)
def b_p_numberAllSlots_36 (K2 : Nat → Int32 → XH → Option (Unit × XH)) (x0 : Nat) (x1 : Int32) (h : XH) : Option (Unit × XH) := (K2 x0 (x1 + 1) h)
set_option maxRecDepth 20000 in
theorem kb_p_numberAllSlots_36 {l : Launch} {G : XG} {d : Nat} {K2 : Nat → Int32 → XH → Option (Unit × XH)} {x0 : Nat} {x1 : Int32} {h : XH} {r : Unit × XH} (hK2 : ∀ (x0 : Nat) (x1 : Int32) (h : XH), LY h → K2 x0 x1 h = some r → XR l G xEX7_numberAllSlots (d + 1) (2, [some (.ref x0), some (.int x1), none], [], h) (fun C => ∃ v, xRet xEX7_numberAllSlots C v ∧ (C.2.2.2 = r.2 ∧ v = none) ∧ LY r.2)) (L0 : LY h) (hf : b_p_numberAllSlots_36 K2 x0 x1 h = some r) : XR l G xEX7_numberAllSlots (d + 1) (36, [some (.ref x0), some (.int x1), none], [], h) (fun C => ∃ v, xRet xEX7_numberAllSlots C v ∧ (C.2.2.2 = r.2 ∧ v = none) ∧ LY r.2) := by
  unfold b_p_numberAllSlots_36 at hf
  refine XS.go (s_inc rfl rfl (Nat.le_of_ble_eq_true rfl)) ?_
  refine XS.go (s_goto (tgt := 2) rfl rfl) ?_
  exact XR.forget (L2 := [some (.ref x0), some (.int (x1 + 1)), none]) ⟨rfl, ⟨rfl, trivial⟩⟩ (hK2 x0 (x1 + 1) _ L0 hf)
def s_p_numberAllSlots_2 (K2 : Nat → Int32 → XH → Option (Unit × XH)) (x0 : Nat) (x1 : Int32) (h : XH) : Option (Unit × XH) := (if x0 < hz h ∧ hk h x0 = 7 then (match hr h x0 1 with | none => none | some b2 => (if b2 < hz h ∧ hk h b2 = 9 then (match hr h b2 1 with | none => none | some b5 => (if b5 < hz h ∧ hk h b5 = 4 then (if (hi h b5 1) ≤ x1 then (some ((), h)) else (match f_g_at b5 x1 h with | none => none | some r9 => (match r9.1 with | none => (b_p_numberAllSlots_36 K2 x0 x1 r9.2) | some b13 => (if b13 < hz r9.2 ∧ hk r9.2 b13 = 2 then (match f_d_numberSlots b13 r9.2 with | none => none | some r15 => (b_p_numberAllSlots_36 K2 x0 x1 r15.2)) else none)))) else none)) else none)) else none)
set_option maxRecDepth 20000 in
theorem ks_p_numberAllSlots_2 {l : Launch} {G : XG} {d : Nat} {K2 : Nat → Int32 → XH → Option (Unit × XH)} {x0 : Nat} {x1 : Int32} {h : XH} {r : Unit × XH} (hK2 : ∀ (x0 : Nat) (x1 : Int32) (h : XH), LY h → K2 x0 x1 h = some r → XR l G xEX7_numberAllSlots (d + 1) (2, [some (.ref x0), some (.int x1), none], [], h) (fun C => ∃ v, xRet xEX7_numberAllSlots C v ∧ (C.2.2.2 = r.2 ∧ v = none) ∧ LY r.2)) (L0 : LY h) (hf : s_p_numberAllSlots_2 K2 x0 x1 h = some r) : XR l G xEX7_numberAllSlots (d + 1) (2, [some (.ref x0), some (.int x1), none], [], h) (fun C => ∃ v, xRet xEX7_numberAllSlots C v ∧ (C.2.2.2 = r.2 ∧ v = none) ∧ LY r.2) := by
  unfold s_p_numberAllSlots_2 at hf
  refine XS.go (s_iloadn rfl rfl rfl) ?_
  refine XS.go (s_aloadn rfl rfl rfl) ?_
  by_cases qk1 : x0 < hz h ∧ hk h x0 = 7
  rotate_left
  · rw [if_neg qk1] at hf; cases hf
  rw [if_pos qk1] at hf
  rcases qr3 : hr h x0 1 with _ | b2
  · rw [qr3] at hf; cases hf
  rw [qr3] at hf; dsimp only at hf
  refine XS.go (s_getr rfl xf7_44 qk1.1 qk1.2 (by decide) rfl qr3) ?_
  by_cases qk4 : b2 < hz h ∧ hk h b2 = 9
  rotate_left
  · rw [if_neg qk4] at hf; cases hf
  rw [if_pos qk4] at hf
  rcases qr6 : hr h b2 1 with _ | b5
  · rw [qr6] at hf; cases hf
  rw [qr6] at hf; dsimp only at hf
  refine XS.go (s_getr rfl xf7_97 qk4.1 qk4.2 (by decide) rfl qr6) ?_
  by_cases qk7 : b5 < hz h ∧ hk h b5 = 4
  rotate_left
  · rw [if_neg qk7] at hf; cases hf
  rw [if_pos qk7] at hf
  refine XS.go (s_getie rfl xf7_251 qk7.1 qk7.2 (by decide) rfl rfl) ?_
  refine r_icmp_ge (tgt := 42) rfl rfl (fun qc8 => ?_) (fun qc8 => ?_)
  · rw [if_pos qc8] at hf
    cases hf
    exact XR.retv rfl rfl (fun hret => ⟨_, hret, ⟨rfl, rfl⟩, L0⟩)
  · rw [if_neg qc8] at hf
    refine XS.go (s_aloadn rfl rfl rfl) ?_
    refine XS.go (s_getr rfl xf7_44 qk1.1 qk1.2 (by decide) rfl qr3) ?_
    refine XS.go (s_getr rfl xf7_97 qk4.1 qk4.2 (by decide) rfl qr6) ?_
    refine XS.go (s_iloadn rfl rfl rfl) ?_
    rcases e10 : f_g_at b5 x1 h with _ | r9
    · rw [e10] at hf; cases hf
    rw [e10] at hf; dsimp only at hf
    refine r_callv rfl xvX4_at xm7_195 (kf_g_at (d := d) L0 e10) qk7.1 qk7.2 (by decide) rfl rfl (by omega) (by decide) (Nat.le_of_ble_eq_true rfl) ?_
    rintro _ _ ⟨⟨rfl, rfl⟩, L11⟩
    refine XS.go (s_astorenO rfl rfl (Nat.le_of_ble_eq_true rfl)) ?_
    refine XS.go (s_aloadnO rfl rfl rfl) ?_
    refine r_ifnull (tgt := 36) rfl rfl (fun qn12 => ?_) (fun b13 qn12 => ?_)
    · rw [qn12] at hf; dsimp only at hf; try rw [qn12]
      exact XR.forget (L2 := [some (.ref x0), some (.int x1), none]) ⟨rfl, ⟨rfl, trivial⟩⟩ (kb_p_numberAllSlots_36 hK2 L11 hf)
    · rw [qn12] at hf; dsimp only at hf; try rw [qn12]
      refine XS.go (s_aloadn rfl rfl rfl) ?_
      by_cases qk14 : b13 < hz r9.2 ∧ hk r9.2 b13 = 2
      rotate_left
      · rw [if_neg qk14] at hf; cases hf
      rw [if_pos qk14] at hf
      rcases e16 : f_d_numberSlots b13 r9.2 with _ | r15
      · rw [e16] at hf; cases hf
      rw [e16] at hf; dsimp only at hf
      refine r_callv rfl xvX2_numberSlots xm7_254 (kf_d_numberSlots (d := d) L11 e16) qk14.1 qk14.2 (by decide) rfl rfl (by omega) (by decide) (Nat.le_of_ble_eq_true rfl) ?_
      rintro _ _ ⟨⟨rfl, rfl⟩, L17⟩
      exact XR.forget (L2 := [some (.ref x0), some (.int x1), none]) ⟨rfl, ⟨rfl, trivial⟩⟩ (kb_p_numberAllSlots_36 hK2 L17 hf)
def b_p_numberAllSlots_2 : Nat → Nat → Int32 → XH → Option (Unit × XH)
  | 0, _, _, _ => none
  | n + 1, x0, x1, h => s_p_numberAllSlots_2 (b_p_numberAllSlots_2 n) x0 x1 h
theorem kb_p_numberAllSlots_2 {l : Launch} {G : XG} {d : Nat} {n : Nat} {x0 : Nat} {x1 : Int32} {h : XH} {r : Unit × XH} (L0 : LY h) (hf : b_p_numberAllSlots_2 n x0 x1 h = some r) : XR l G xEX7_numberAllSlots (d + 1) (2, [some (.ref x0), some (.int x1), none], [], h) (fun C => ∃ v, xRet xEX7_numberAllSlots C v ∧ (C.2.2.2 = r.2 ∧ v = none) ∧ LY r.2) := by
  induction n generalizing x0 x1 h with
  | zero => cases hf
  | succ n ih => exact ks_p_numberAllSlots_2 (fun x0 x1 h L0 hf => ih (h := h) (x0 := x0) (x1 := x1) L0 hf) L0 hf
def f_p_numberAllSlots (t : Nat) (h : XH) : Option (Unit × XH) := (b_p_numberAllSlots_2 100000 t 0 h)
set_option maxRecDepth 20000 in
theorem kf_p_numberAllSlots {l : Launch} {G : XG} {d : Nat} {t : Nat} {h : XH} {r : Unit × XH} (L0 : LY h) (hf : f_p_numberAllSlots t h = some r) : XC l G xEX7_numberAllSlots (d + 1) [.ref t] h (fun v h2 => (h2 = r.2 ∧ v = none) ∧ LY r.2) := by
  refine XC.virt xvX7_numberAllSlots (Nat.le_of_ble_eq_true rfl) ?_
  unfold f_p_numberAllSlots at hf
  refine XS.go (s_iconst (v := 0) rfl rfl) ?_
  refine XS.go (s_istoren rfl rfl (Nat.le_of_ble_eq_true rfl)) ?_
  exact XR.forget (L2 := [some (.ref t), some (.int 0), none]) ⟨rfl, ⟨rfl, trivial⟩⟩ (kb_p_numberAllSlots_2 L0 hf)
def f_p_advance (t : Nat) (h : XH) : Option (Unit × XH) := (if t < hz h ∧ hk h t = 7 then (match hr h t 0 with | none => none | some b2 => (if b2 < hz h ∧ hk h b2 = 6 then (match f_x_kind ((hi h t 5) + 1) (hsi h t 5 ((hi h t 5) + 1)) with | none => none | some r5 => (if t < hz r5.2 ∧ hk r5.2 t = 7 then (some ((), (hsi r5.2 t 6 r5.1))) else none)) else none)) else none)
set_option maxRecDepth 20000 in
theorem kf_p_advance {l : Launch} {G : XG} {d : Nat} {t : Nat} {h : XH} {r : Unit × XH} (L0 : LY h) (hf : f_p_advance t h = some r) : XC l G xEX7_advance (d + 1) [.ref t] h (fun v h2 => (h2 = r.2 ∧ v = none) ∧ LY r.2) := by
  refine XC.virt xvX7_advance (Nat.le_of_ble_eq_true rfl) ?_
  unfold f_p_advance at hf
  refine XS.go (s_aloadn rfl rfl rfl) ?_
  refine XS.go (s_dup rfl rfl) ?_
  by_cases qk1 : t < hz h ∧ hk h t = 7
  rotate_left
  · rw [if_neg qk1] at hf; cases hf
  rw [if_pos qk1] at hf
  refine XS.go (s_getie rfl xf7_26 qk1.1 qk1.2 (by decide) rfl rfl) ?_
  refine XS.go (s_iconst (v := 1) rfl rfl) ?_
  refine XS.go (s_iadd rfl) ?_
  refine XS.go (s_puti rfl xf7_26 qk1.1 qk1.2 (by decide) rfl (Or.inl rfl)) ?_
  refine XS.go (s_aloadn rfl rfl rfl) ?_
  refine XS.go (s_aloadn rfl rfl rfl) ?_
  rcases qr3 : hr h t 0 with _ | b2
  · rw [qr3] at hf; cases hf
  rw [qr3] at hf; dsimp only at hf
  refine XS.go (s_getr rfl xf7_40 (by simp only [hz_hsi, hk_hsi, hz_hsj, hk_hsj]; exact qk1.1) (by simp only [hz_hsi, hk_hsi, hz_hsj, hk_hsj]; exact qk1.2) (by decide) rfl (by simp only [hr_hsi, hr_hsj]; exact qr3)) ?_
  refine XS.go (s_aloadn rfl rfl rfl) ?_
  refine XS.go (s_getie rfl xf7_26 (by simp only [hz_hsi, hk_hsi, hz_hsj, hk_hsj]; exact qk1.1) (by simp only [hz_hsi, hk_hsi, hz_hsj, hk_hsj]; exact qk1.2) (by decide) rfl hi_hsi_eq) ?_
  by_cases qk4 : b2 < hz h ∧ hk h b2 = 6
  rotate_left
  · rw [if_neg qk4] at hf; cases hf
  rw [if_pos qk4] at hf
  rcases e6 : f_x_kind ((hi h t 5) + 1) (hsi h t 5 ((hi h t 5) + 1)) with _ | r5
  · rw [e6] at hf; cases hf
  rw [e6] at hf; dsimp only at hf
  refine r_callv rfl xvX6_kind xm7_53 (kf_x_kind (d := d) (by simp only [LY_si, LY_sj]; exact L0) e6) (by simp only [hz_hsi, hk_hsi, hz_hsj, hk_hsj]; exact qk4.1) (by simp only [hz_hsi, hk_hsi, hz_hsj, hk_hsj]; exact qk4.2) (by decide) rfl rfl (by omega) (by decide) (Nat.le_of_ble_eq_true rfl) ?_
  rintro _ _ ⟨⟨rfl, rfl⟩, L7⟩
  by_cases qk8 : t < hz r5.2 ∧ hk r5.2 t = 7
  rotate_left
  · rw [if_neg qk8] at hf; cases hf
  rw [if_pos qk8] at hf
  refine XS.go (s_puti rfl xf7_31 qk8.1 qk8.2 (by decide) rfl (Or.inl rfl)) ?_
  cases hf
  exact XR.retv rfl rfl (fun hret => ⟨_, hret, ⟨rfl, rfl⟩, (by simp only [LY_si, LY_sj]; exact L7)⟩)
def b_p_fail_14 (x0 : Nat) (y0 : Nat) (y1 : Int32) (h : XH) : Option (Int32 × XH) := (if y0 < hz h ∧ hk h y0 = 7 then (if x0 < hz h ∧ hk h x0 = 7 then (match hr h x0 0 with | none => none | some b3 => (if b3 < hz h ∧ hk h b3 = 6 then (match f_x_place (hi h x0 5) (hsi h y0 7 y1) with | none => none | some r6 => (if x0 < hz r6.2 ∧ hk r6.2 x0 = 7 then (some (0, (hsi r6.2 x0 8 r6.1))) else none)) else none)) else none) else none)
set_option maxRecDepth 20000 in
theorem kb_p_fail_14 {l : Launch} {G : XG} {d : Nat} {x0 : Nat} {y0 : Nat} {y1 : Int32} {h : XH} {r : Int32 × XH} (L0 : LY h) (hf : b_p_fail_14 x0 y0 y1 h = some r) : XR l G xEX7_fail (d + 1) (14, [some (.ref x0), none], [(.int y1), (.ref y0)], h) (fun C => ∃ v, xRet xEX7_fail C v ∧ (C.2.2.2 = r.2 ∧ v = some (.int r.1)) ∧ LY r.2) := by
  unfold b_p_fail_14 at hf
  by_cases qk1 : y0 < hz h ∧ hk h y0 = 7
  rotate_left
  · rw [if_neg qk1] at hf; cases hf
  rw [if_pos qk1] at hf
  refine XS.go (s_puti rfl xf7_34 qk1.1 qk1.2 (by decide) rfl (Or.inl rfl)) ?_
  refine XS.go (s_aloadn rfl rfl rfl) ?_
  refine XS.go (s_aloadn rfl rfl rfl) ?_
  by_cases qk2 : x0 < hz h ∧ hk h x0 = 7
  rotate_left
  · rw [if_neg qk2] at hf; cases hf
  rw [if_pos qk2] at hf
  rcases qr4 : hr h x0 0 with _ | b3
  · rw [qr4] at hf; cases hf
  rw [qr4] at hf; dsimp only at hf
  refine XS.go (s_getr rfl xf7_40 (by simp only [hz_hsi, hk_hsi, hz_hsj, hk_hsj]; exact qk2.1) (by simp only [hz_hsi, hk_hsi, hz_hsj, hk_hsj]; exact qk2.2) (by decide) rfl (by simp only [hr_hsi, hr_hsj]; exact qr4)) ?_
  refine XS.go (s_aloadn rfl rfl rfl) ?_
  refine XS.go (s_getie rfl xf7_26 (by simp only [hz_hsi, hk_hsi, hz_hsj, hk_hsj]; exact qk2.1) (by simp only [hz_hsi, hk_hsi, hz_hsj, hk_hsj]; exact qk2.2) (by decide) rfl (hi_hsi_nk (by decide))) ?_
  by_cases qk5 : b3 < hz h ∧ hk h b3 = 6
  rotate_left
  · rw [if_neg qk5] at hf; cases hf
  rw [if_pos qk5] at hf
  rcases e7 : f_x_place (hi h x0 5) (hsi h y0 7 y1) with _ | r6
  · rw [e7] at hf; cases hf
  rw [e7] at hf; dsimp only at hf
  refine r_callv rfl xvX6_place xm7_75 (kf_x_place (d := d) (by simp only [LY_si, LY_sj]; exact L0) e7) (by simp only [hz_hsi, hk_hsi, hz_hsj, hk_hsj]; exact qk5.1) (by simp only [hz_hsi, hk_hsi, hz_hsj, hk_hsj]; exact qk5.2) (by decide) rfl rfl (by omega) (by decide) (Nat.le_of_ble_eq_true rfl) ?_
  rintro _ _ ⟨⟨rfl, rfl⟩, L8⟩
  by_cases qk9 : x0 < hz r6.2 ∧ hk r6.2 x0 = 7
  rotate_left
  · rw [if_neg qk9] at hf; cases hf
  rw [if_pos qk9] at hf
  refine XS.go (s_puti rfl xf7_37 qk9.1 qk9.2 (by decide) rfl (Or.inl rfl)) ?_
  refine XS.go (s_iconst (v := 0) rfl rfl) ?_
  cases hf
  exact XR.retz rfl rfl (by decide) (fun hret => ⟨_, hret, ⟨rfl, rfl⟩, (by simp only [LY_si, LY_sj]; exact L8)⟩)
def f_p_fail (t : Nat) (a0 : Int32) (h : XH) : Option (Int32 × XH) := (if t < hz h ∧ hk h t = 7 then (if ¬ (hi h t 6) = 1 then (b_p_fail_14 t t a0 h) else (b_p_fail_14 t t 1 h)) else none)
set_option maxRecDepth 20000 in
theorem kf_p_fail {l : Launch} {G : XG} {d : Nat} {t : Nat} {a0 : Int32} {h : XH} {r : Int32 × XH} (L0 : LY h) (hf : f_p_fail t a0 h = some r) : XC l G xEX7_fail (d + 1) [.ref t, .int a0] h (fun v h2 => (h2 = r.2 ∧ v = some (.int r.1)) ∧ LY r.2) := by
  refine XC.virt xvX7_fail (Nat.le_of_ble_eq_true rfl) ?_
  unfold f_p_fail at hf
  refine XS.go (s_aloadn rfl rfl rfl) ?_
  refine XS.go (s_aloadn rfl rfl rfl) ?_
  by_cases qk10 : t < hz h ∧ hk h t = 7
  rotate_left
  · rw [if_neg qk10] at hf; cases hf
  rw [if_pos qk10] at hf
  refine XS.go (s_getie rfl xf7_31 qk10.1 qk10.2 (by decide) rfl rfl) ?_
  refine XS.go (s_iconst (v := 1) rfl rfl) ?_
  refine r_icmp_ne (tgt := 13) rfl rfl (fun qc11 => ?_) (fun qc11 => ?_)
  · rw [if_pos qc11] at hf
    refine XS.go (s_iloadn rfl rfl rfl) ?_
    exact XR.forget (L2 := [some (.ref t), none]) ⟨rfl, trivial⟩ (kb_p_fail_14 L0 hf)
  · rw [if_neg qc11] at hf
    refine XS.go (s_iconst (v := 1) rfl rfl) ?_
    refine XS.go (s_goto (tgt := 14) rfl rfl) ?_
    exact XR.forget (L2 := [some (.ref t), none]) ⟨rfl, trivial⟩ (kb_p_fail_14 L0 hf)
def b_s_addTo_56 (x6 : Option Nat) (h : XH) : Option (Option Nat × XH) := (some (x6, h))
set_option maxRecDepth 20000 in
theorem kb_s_addTo_56 {l : Launch} {G : XG} {d : Nat} {x6 : Option Nat} {h : XH} {r : Option Nat × XH} (L0 : LY h) (hf : b_s_addTo_56 x6 h = some r) : XR l G xEX9_addTo (d + 2) (56, [none, none, none, none, none, none, some (va_rf x6)], [], h) (fun C => ∃ v, xRet xEX9_addTo C v ∧ (C.2.2.2 = r.2 ∧ v = some (va_rf r.1)) ∧ LY r.2) := by
  unfold b_s_addTo_56 at hf
  refine XS.go (s_aloadO rfl rfl) ?_
  cases hf
  exact XR.reta (o := x6) rfl rfl (fun hret => ⟨_, hret, ⟨rfl, rfl⟩, L0⟩)
def b_s_addTo_19 (h : XH) : Option (Option Nat × XH) := (some (none, h))
set_option maxRecDepth 20000 in
theorem kb_s_addTo_19 {l : Launch} {G : XG} {d : Nat} {h : XH} {r : Option Nat × XH} (L0 : LY h) (hf : b_s_addTo_19 h = some r) : XR l G xEX9_addTo (d + 2) (19, [none, none, none, none, none, none, none], [], h) (fun C => ∃ v, xRet xEX9_addTo C v ∧ (C.2.2.2 = r.2 ∧ v = some (va_rf r.1)) ∧ LY r.2) := by
  unfold b_s_addTo_19 at hf
  refine XS.go (s_null rfl) ?_
  cases hf
  exact XR.reta (o := none) rfl rfl (fun hret => ⟨_, hret, ⟨rfl, rfl⟩, L0⟩)
def f_s_addTo (t : Nat) (a0 : Nat) (a1 : Int64) (a2 : Int64) (h : XH) : Option (Option Nat × XH) := (if t < hz h ∧ hk h t = 9 then (if (hi h t 4) < 0 then (b_s_addTo_19 h) else (match hr h t 3 with | none => none | some b3 => (if b3 < hz h ∧ hk h b3 = 105 then (if (hi h t 4) < (nI (hn h b3)) then (if a0 < hz h ∧ hk h a0 = 4 then (match f_g_add a0 a1 a2 h with | none => none | some r8 => (match r8.1 with | none => (b_s_addTo_56 none r8.2) | some b12 => (if t < hz r8.2 ∧ hk r8.2 t = 9 then (match hr r8.2 t 3 with | none => none | some b14 => (if b14 < hz r8.2 ∧ hk r8.2 b14 = 105 then (if b12 < hz r8.2 ∧ hk r8.2 b12 = 2 then (if 0 ≤ (hi r8.2 t 4) ∧ (hi r8.2 t 4) < nI (hn r8.2 b14) ∧ (hn r8.2 b14) < 2 ^ 31 then (if 1317 ≤ b14 ∨ b14 = 627 ∨ b14 = 1243 then (if t < hz (hsr r8.2 b14 (Int32.toNatClampNeg (hi r8.2 t 4)) (some b12)) ∧ hk (hsr r8.2 b14 (Int32.toNatClampNeg (hi r8.2 t 4)) (some b12)) t = 9 then (b_s_addTo_56 (some b12) (hsi (hsr r8.2 b14 (Int32.toNatClampNeg (hi r8.2 t 4)) (some b12)) t 4 ((hi (hsr r8.2 b14 (Int32.toNatClampNeg (hi r8.2 t 4)) (some b12)) t 4) + 1))) else none) else none) else none) else none) else none)) else none))) else none) else (b_s_addTo_19 h)) else none))) else none)
set_option maxRecDepth 20000 in
theorem kf_s_addTo {l : Launch} {G : XG} {d : Nat} {t : Nat} {a0 : Nat} {a1 : Int64} {a2 : Int64} {h : XH} {r : Option Nat × XH} (L0 : LY h) (hf : f_s_addTo t a0 a1 a2 h = some r) : XC l G xEX9_addTo (d + 2) [.ref t, .ref a0, .long a1, .long a2] h (fun v h2 => (h2 = r.2 ∧ v = some (va_rf r.1)) ∧ LY r.2) := by
  refine XC.virt xvX9_addTo (Nat.le_of_ble_eq_true rfl) ?_
  unfold f_s_addTo at hf
  refine XS.go (s_aloadn rfl rfl rfl) ?_
  by_cases qk1 : t < hz h ∧ hk h t = 9
  rotate_left
  · rw [if_neg qk1] at hf; cases hf
  rw [if_pos qk1] at hf
  refine XS.go (s_getie rfl xf9_32 qk1.1 qk1.2 (by decide) rfl rfl) ?_
  refine r_if_lt (tgt := 19) rfl rfl (fun qc2 => ?_) (fun qc2 => ?_)
  · rw [if_pos qc2] at hf
    exact XR.forget (L2 := [none, none, none, none, none, none, none]) trivial (kb_s_addTo_19 L0 hf)
  · rw [if_neg qc2] at hf
    refine XS.go (s_aloadn rfl rfl rfl) ?_
    refine XS.go (s_getie rfl xf9_32 qk1.1 qk1.2 (by decide) rfl rfl) ?_
    refine XS.go (s_aloadn rfl rfl rfl) ?_
    rcases qr4 : hr h t 3 with _ | b3
    · rw [qr4] at hf; cases hf
    rw [qr4] at hf; dsimp only at hf
    refine XS.go (s_getr rfl xf9_28 qk1.1 qk1.2 (by decide) rfl qr4) ?_
    by_cases qk5 : b3 < hz h ∧ hk h b3 = 105
    rotate_left
    · rw [if_neg qk5] at hf; cases hf
    rw [if_pos qk5] at hf
    refine XS.go (s_alene rfl qk5.1 qk5.2 rfl (by decide)) ?_
    refine r_icmp_lt (tgt := 21) rfl rfl (fun qc6 => ?_) (fun qc6 => ?_)
    · rw [if_pos qc6] at hf
      refine XS.go (s_aloadn rfl rfl rfl) ?_
      refine XS.go (s_lloadn rfl rfl rfl) ?_
      refine XS.go (s_lload rfl rfl) ?_
      by_cases qk7 : a0 < hz h ∧ hk h a0 = 4
      rotate_left
      · rw [if_neg qk7] at hf; cases hf
      rw [if_pos qk7] at hf
      rcases e9 : f_g_add a0 a1 a2 h with _ | r8
      · rw [e9] at hf; cases hf
      rw [e9] at hf; dsimp only at hf
      refine r_callv rfl xvX4_add xm9_42 (kf_g_add (d := d) L0 e9) qk7.1 qk7.2 (by decide) rfl rfl (by omega) (by decide) (Nat.le_of_ble_eq_true rfl) ?_
      rintro _ _ ⟨⟨rfl, rfl⟩, L10⟩
      refine XS.go (s_astoreO rfl (Nat.le_of_ble_eq_true rfl)) ?_
      refine XS.go (s_aloadO rfl rfl) ?_
      refine r_ifnull (tgt := 56) rfl rfl (fun qn11 => ?_) (fun b12 qn11 => ?_)
      · rw [qn11] at hf; dsimp only at hf; try rw [qn11]
        exact XR.forget (L2 := [none, none, none, none, none, none, some (va_rf none)]) ⟨rfl, trivial⟩ (kb_s_addTo_56 L10 hf)
      · rw [qn11] at hf; dsimp only at hf; try rw [qn11]
        refine XS.go (s_aloadn rfl rfl rfl) ?_
        by_cases qk13 : t < hz r8.2 ∧ hk r8.2 t = 9
        rotate_left
        · rw [if_neg qk13] at hf; cases hf
        rw [if_pos qk13] at hf
        rcases qr15 : hr r8.2 t 3 with _ | b14
        · rw [qr15] at hf; cases hf
        rw [qr15] at hf; dsimp only at hf
        refine XS.go (s_getr rfl xf9_28 qk13.1 qk13.2 (by decide) rfl qr15) ?_
        refine XS.go (s_aloadn rfl rfl rfl) ?_
        refine XS.go (s_getie rfl xf9_32 qk13.1 qk13.2 (by decide) rfl rfl) ?_
        refine XS.go (s_aload rfl rfl) ?_
        by_cases qk16 : b14 < hz r8.2 ∧ hk r8.2 b14 = 105
        rotate_left
        · rw [if_neg qk16] at hf; cases hf
        rw [if_pos qk16] at hf
        by_cases qk17 : b12 < hz r8.2 ∧ hk r8.2 b12 = 2
        rotate_left
        · rw [if_neg qk17] at hf; cases hf
        rw [if_pos qk17] at hf
        by_cases qk18 : 0 ≤ (hi r8.2 t 4) ∧ (hi r8.2 t 4) < nI (hn r8.2 b14) ∧ (hn r8.2 b14) < 2 ^ 31
        rotate_left
        · rw [if_neg qk18] at hf; cases hf
        rw [if_pos qk18] at hf
        by_cases qk19 : 1317 ≤ b14 ∨ b14 = 627 ∨ b14 = 1243
        rotate_left
        · rw [if_neg qk19] at hf; cases hf
        rw [if_pos qk19] at hf
        have L20 : LY (hsr r8.2 b14 (Int32.toNatClampNeg (hi r8.2 t 4)) (some b12)) := LY.sra L10 qk19
        refine XS.go (s_aast105 rfl qk16.1 qk16.2 (inLit (N := hn r8.2 b14) rfl qk18.1 qk18.2.1 qk18.2.2) qk17.1 qk17.2) ?_
        refine XS.go (s_aloadn rfl rfl rfl) ?_
        refine XS.go (s_dup rfl rfl) ?_
        by_cases qk21 : t < hz (hsr r8.2 b14 (Int32.toNatClampNeg (hi r8.2 t 4)) (some b12)) ∧ hk (hsr r8.2 b14 (Int32.toNatClampNeg (hi r8.2 t 4)) (some b12)) t = 9
        rotate_left
        · rw [if_neg qk21] at hf; cases hf
        rw [if_pos qk21] at hf
        refine XS.go (s_getie rfl xf9_32 qk21.1 qk21.2 (by decide) rfl rfl) ?_
        refine XS.go (s_iconst (v := 1) rfl rfl) ?_
        refine XS.go (s_iadd rfl) ?_
        refine XS.go (s_puti rfl xf9_32 qk21.1 qk21.2 (by decide) rfl (Or.inl rfl)) ?_
        exact XR.forget (L2 := [none, none, none, none, none, none, some (.ref b12)]) ⟨rfl, trivial⟩ (kb_s_addTo_56 (by simp only [LY_si, LY_sj]; exact L20) hf)
    · rw [if_neg qc6] at hf
      exact XR.forget (L2 := [none, none, none, none, none, none, none]) trivial (kb_s_addTo_19 L0 hf)
def b_s_named_65 (h : XH) : Option (Option Nat × XH) := (some (none, h))
set_option maxRecDepth 20000 in
theorem kb_s_named_65 {l : Launch} {G : XG} {d : Nat} {h : XH} {r : Option Nat × XH} (L0 : LY h) (hf : b_s_named_65 h = some r) : XR l G xEX9_named d (65, [none, none, none, none, none, none, none], [], h) (fun C => ∃ v, xRet xEX9_named C v ∧ (C.2.2.2 = r.2 ∧ v = some (va_rf r.1)) ∧ LY r.2) := by
  unfold b_s_named_65 at hf
  refine XS.go (s_null rfl) ?_
  cases hf
  exact XR.reta (o := none) rfl rfl (fun hret => ⟨_, hret, ⟨rfl, rfl⟩, L0⟩)
def b_s_named_59 (K3 : Nat → Int64 → Int64 → Int32 → XH → Option (Option Nat × XH)) (x0 : Nat) (x1 : Int64) (x3 : Int64) (x5 : Int32) (h : XH) : Option (Option Nat × XH) := (K3 x0 x1 x3 (x5 + 1) h)
set_option maxRecDepth 20000 in
theorem kb_s_named_59 {l : Launch} {G : XG} {d : Nat} {K3 : Nat → Int64 → Int64 → Int32 → XH → Option (Option Nat × XH)} {x0 : Nat} {x1 : Int64} {x3 : Int64} {x5 : Int32} {h : XH} {r : Option Nat × XH} (hK3 : ∀ (x0 : Nat) (x1 : Int64) (x3 : Int64) (x5 : Int32) (h : XH), LY h → K3 x0 x1 x3 x5 h = some r → XR l G xEX9_named d (3, [some (.ref x0), some (.long x1), none, some (.long x3), none, some (.int x5), none], [], h) (fun C => ∃ v, xRet xEX9_named C v ∧ (C.2.2.2 = r.2 ∧ v = some (va_rf r.1)) ∧ LY r.2)) (L0 : LY h) (hf : b_s_named_59 K3 x0 x1 x3 x5 h = some r) : XR l G xEX9_named d (59, [some (.ref x0), some (.long x1), none, some (.long x3), none, some (.int x5), none], [], h) (fun C => ∃ v, xRet xEX9_named C v ∧ (C.2.2.2 = r.2 ∧ v = some (va_rf r.1)) ∧ LY r.2) := by
  unfold b_s_named_59 at hf
  refine XS.go (s_inc rfl rfl (Nat.le_of_ble_eq_true rfl)) ?_
  refine XS.go (s_goto (tgt := 3) rfl rfl) ?_
  exact XR.forget (L2 := [some (.ref x0), some (.long x1), none, some (.long x3), none, some (.int (x5 + 1)), none]) ⟨rfl, ⟨rfl, ⟨rfl, ⟨rfl, trivial⟩⟩⟩⟩ (hK3 x0 x1 x3 (x5 + 1) _ L0 hf)
def s_s_named_3 (K3 : Nat → Int64 → Int64 → Int32 → XH → Option (Option Nat × XH)) (x0 : Nat) (x1 : Int64) (x3 : Int64) (x5 : Int32) (h : XH) : Option (Option Nat × XH) := (if x0 < hz h ∧ hk h x0 = 9 then (if (hi h x0 4) ≤ x5 then (b_s_named_65 h) else (match hr h x0 3 with | none => none | some b3 => (if b3 < hz h ∧ hk h b3 = 105 then (if (nI (hn h b3)) ≤ x5 then (b_s_named_65 h) else (if 0 ≤ x5 ∧ x5 < nI (hn h b3) ∧ (hn h b3) < 2 ^ 31 then (match hr h b3 (Int32.toNatClampNeg x5) with | none => none | some b8 => (if b8 < hz h ∧ hk h b8 = 2 then (if ¬ (lg_cmp (hj h b8 4) x1) = 0 then (b_s_named_59 K3 x0 x1 x3 x5 h) else (if ¬ (lg_cmp (hj h b8 5) x3) = 0 then (b_s_named_59 K3 x0 x1 x3 x5 h) else (some (some b8, h)))) else none)) else none)) else none))) else none)
set_option maxRecDepth 20000 in
theorem ks_s_named_3 {l : Launch} {G : XG} {d : Nat} {K3 : Nat → Int64 → Int64 → Int32 → XH → Option (Option Nat × XH)} {x0 : Nat} {x1 : Int64} {x3 : Int64} {x5 : Int32} {h : XH} {r : Option Nat × XH} (hK3 : ∀ (x0 : Nat) (x1 : Int64) (x3 : Int64) (x5 : Int32) (h : XH), LY h → K3 x0 x1 x3 x5 h = some r → XR l G xEX9_named d (3, [some (.ref x0), some (.long x1), none, some (.long x3), none, some (.int x5), none], [], h) (fun C => ∃ v, xRet xEX9_named C v ∧ (C.2.2.2 = r.2 ∧ v = some (va_rf r.1)) ∧ LY r.2)) (L0 : LY h) (hf : s_s_named_3 K3 x0 x1 x3 x5 h = some r) : XR l G xEX9_named d (3, [some (.ref x0), some (.long x1), none, some (.long x3), none, some (.int x5), none], [], h) (fun C => ∃ v, xRet xEX9_named C v ∧ (C.2.2.2 = r.2 ∧ v = some (va_rf r.1)) ∧ LY r.2) := by
  unfold s_s_named_3 at hf
  refine XS.go (s_iload rfl rfl) ?_
  refine XS.go (s_aloadn rfl rfl rfl) ?_
  by_cases qk1 : x0 < hz h ∧ hk h x0 = 9
  rotate_left
  · rw [if_neg qk1] at hf; cases hf
  rw [if_pos qk1] at hf
  refine XS.go (s_getie rfl xf9_32 qk1.1 qk1.2 (by decide) rfl rfl) ?_
  refine r_icmp_ge (tgt := 65) rfl rfl (fun qc2 => ?_) (fun qc2 => ?_)
  · rw [if_pos qc2] at hf
    exact XR.forget (L2 := [none, none, none, none, none, none, none]) trivial (kb_s_named_65 L0 hf)
  · rw [if_neg qc2] at hf
    refine XS.go (s_iload rfl rfl) ?_
    refine XS.go (s_aloadn rfl rfl rfl) ?_
    rcases qr4 : hr h x0 3 with _ | b3
    · rw [qr4] at hf; cases hf
    rw [qr4] at hf; dsimp only at hf
    refine XS.go (s_getr rfl xf9_28 qk1.1 qk1.2 (by decide) rfl qr4) ?_
    by_cases qk5 : b3 < hz h ∧ hk h b3 = 105
    rotate_left
    · rw [if_neg qk5] at hf; cases hf
    rw [if_pos qk5] at hf
    refine XS.go (s_alene rfl qk5.1 qk5.2 rfl (by decide)) ?_
    refine r_icmp_ge (tgt := 65) rfl rfl (fun qc6 => ?_) (fun qc6 => ?_)
    · rw [if_pos qc6] at hf
      exact XR.forget (L2 := [none, none, none, none, none, none, none]) trivial (kb_s_named_65 L0 hf)
    · rw [if_neg qc6] at hf
      refine XS.go (s_aloadn rfl rfl rfl) ?_
      refine XS.go (s_getr rfl xf9_28 qk1.1 qk1.2 (by decide) rfl qr4) ?_
      refine XS.go (s_iload rfl rfl) ?_
      by_cases qk7 : 0 ≤ x5 ∧ x5 < nI (hn h b3) ∧ (hn h b3) < 2 ^ 31
      rotate_left
      · rw [if_neg qk7] at hf; cases hf
      rw [if_pos qk7] at hf
      rcases qr9 : hr h b3 (Int32.toNatClampNeg x5) with _ | b8
      · rw [qr9] at hf; cases hf
      rw [qr9] at hf; dsimp only at hf
      refine XS.go (s_aald105e rfl qk5.1 qk5.2 (inLit (N := hn h b3) rfl qk7.1 qk7.2.1 qk7.2.2) qr9) ?_
      refine XS.go (s_astore rfl (Nat.le_of_ble_eq_true rfl)) ?_
      refine XS.go (s_aload rfl rfl) ?_
      refine XS.go (s_ifnull_r rfl) ?_
      refine XS.go (s_aload rfl rfl) ?_
      by_cases qk10 : b8 < hz h ∧ hk h b8 = 2
      rotate_left
      · rw [if_neg qk10] at hf; cases hf
      rw [if_pos qk10] at hf
      refine XS.go (s_getje rfl xf9_46 qk10.1 qk10.2 (by decide) rfl rfl) ?_
      refine XS.go (s_lloadn rfl rfl rfl) ?_
      refine XS.go (s_lcmp rfl) ?_
      refine r_if_ne (tgt := 59) rfl rfl (fun qc11 => ?_) (fun qc11 => ?_)
      · rw [if_pos qc11] at hf
        exact XR.forget (L2 := [some (.ref x0), some (.long x1), none, some (.long x3), none, some (.int x5), none]) ⟨rfl, ⟨rfl, ⟨rfl, ⟨rfl, trivial⟩⟩⟩⟩ (kb_s_named_59 hK3 L0 hf)
      · rw [if_neg qc11] at hf
        refine XS.go (s_aload rfl rfl) ?_
        refine XS.go (s_getje rfl xf9_50 qk10.1 qk10.2 (by decide) rfl rfl) ?_
        refine XS.go (s_lloadn rfl rfl rfl) ?_
        refine XS.go (s_lcmp rfl) ?_
        refine r_if_ne (tgt := 59) rfl rfl (fun qc12 => ?_) (fun qc12 => ?_)
        · rw [if_pos qc12] at hf
          exact XR.forget (L2 := [some (.ref x0), some (.long x1), none, some (.long x3), none, some (.int x5), none]) ⟨rfl, ⟨rfl, ⟨rfl, ⟨rfl, trivial⟩⟩⟩⟩ (kb_s_named_59 hK3 L0 hf)
        · rw [if_neg qc12] at hf
          refine XS.go (s_aload rfl rfl) ?_
          cases hf
          exact XR.reta (o := (some b8)) rfl rfl (fun hret => ⟨_, hret, ⟨rfl, rfl⟩, L0⟩)
def b_s_named_3 : Nat → Nat → Int64 → Int64 → Int32 → XH → Option (Option Nat × XH)
  | 0, _, _, _, _, _ => none
  | n + 1, x0, x1, x3, x5, h => s_s_named_3 (b_s_named_3 n) x0 x1 x3 x5 h
theorem kb_s_named_3 {l : Launch} {G : XG} {d : Nat} {n : Nat} {x0 : Nat} {x1 : Int64} {x3 : Int64} {x5 : Int32} {h : XH} {r : Option Nat × XH} (L0 : LY h) (hf : b_s_named_3 n x0 x1 x3 x5 h = some r) : XR l G xEX9_named d (3, [some (.ref x0), some (.long x1), none, some (.long x3), none, some (.int x5), none], [], h) (fun C => ∃ v, xRet xEX9_named C v ∧ (C.2.2.2 = r.2 ∧ v = some (va_rf r.1)) ∧ LY r.2) := by
  induction n generalizing x0 x1 x3 x5 h with
  | zero => cases hf
  | succ n ih => exact ks_s_named_3 (fun x0 x1 x3 x5 h L0 hf => ih (h := h) (x0 := x0) (x1 := x1) (x3 := x3) (x5 := x5) L0 hf) L0 hf
def f_s_named (t : Nat) (a0 : Int64) (a1 : Int64) (h : XH) : Option (Option Nat × XH) := (b_s_named_3 100000 t a0 a1 0 h)
set_option maxRecDepth 20000 in
theorem kf_s_named {l : Launch} {G : XG} {d : Nat} {t : Nat} {a0 : Int64} {a1 : Int64} {h : XH} {r : Option Nat × XH} (L0 : LY h) (hf : f_s_named t a0 a1 h = some r) : XC l G xEX9_named d [.ref t, .long a0, .long a1] h (fun v h2 => (h2 = r.2 ∧ v = some (va_rf r.1)) ∧ LY r.2) := by
  refine XC.virt xvX9_named (Nat.le_of_ble_eq_true rfl) ?_
  unfold f_s_named at hf
  refine XS.go (s_iconst (v := 0) rfl rfl) ?_
  refine XS.go (s_istore rfl (Nat.le_of_ble_eq_true rfl)) ?_
  exact XR.forget (L2 := [some (.ref t), some (.long a0), none, some (.long a1), none, some (.int 0), none]) ⟨rfl, ⟨rfl, ⟨rfl, ⟨rfl, trivial⟩⟩⟩⟩ (kb_s_named_3 L0 hf)
