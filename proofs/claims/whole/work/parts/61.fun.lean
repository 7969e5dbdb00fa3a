/-! Methods as functions of the heap -/
def b_m_vector_452 (y1 : Int32) (y2 : Int32) (y3 : Int32) (h : XH) : Option (Int32 × XH) := (match f_m_thing y1 y2 y3 h with | none => none | some r1 => (some (r1.1, r1.2)))
set_option maxRecDepth 20000 in
theorem kb_m_vector_452 {l : Launch} {G : XG} {d : Nat} {y1 : Int32} {y2 : Int32} {y3 : Int32} {h : XH} {r : Int32 × XH} (L0 : LY h) (hf : b_m_vector_452 y1 y2 y3 h = some r) : XR l G xEX12_vector (d + 3) (452, [none, none, none, none, none, none, none, none, none, none, none, none], [(.int y3), (.int y2), (.int y1), (.ref 1262)], h) (fun C => ∃ v, xRet xEX12_vector C v ∧ (C.2.2.2 = r.2 ∧ v = some (.int r.1)) ∧ LY r.2) := by
  unfold b_m_vector_452 at hf
  rcases e2 : f_m_thing y1 y2 y3 h with _ | r1
  · rw [e2] at hf; cases hf
  rw [e2] at hf; dsimp only at hf
  refine r_callv rfl xvX12_thing xm12_410 (kf_m_thing (d := d) L0 e2) (LY.lt L0 (by decide)) (LY.k1262 L0) (by decide) rfl rfl (by omega) (by decide) (Nat.le_of_ble_eq_true rfl) ?_
  rintro _ _ ⟨⟨rfl, rfl⟩, L3⟩
  cases hf
  exact XR.reti rfl rfl (fun hret => ⟨_, hret, ⟨rfl, rfl⟩, L3⟩)
def b_m_vector_425 (K370 : Int32 → Int32 → Int32 → Int32 → Int32 → Int32 → XH → Option (Int32 × XH)) (x1 : Int32) (x2 : Int32) (x5 : Int32) (x7 : Int32) (x8 : Int32) (x11 : Int32) (h : XH) : Option (Int32 × XH) := (K370 x1 x2 x5 x7 x8 (x11 + (-1)) h)
set_option maxRecDepth 20000 in
theorem kb_m_vector_425 {l : Launch} {G : XG} {d : Nat} {K370 : Int32 → Int32 → Int32 → Int32 → Int32 → Int32 → XH → Option (Int32 × XH)} {x1 : Int32} {x2 : Int32} {x5 : Int32} {x7 : Int32} {x8 : Int32} {x11 : Int32} {h : XH} {r : Int32 × XH} (hK370 : ∀ (x1 : Int32) (x2 : Int32) (x5 : Int32) (x7 : Int32) (x8 : Int32) (x11 : Int32) (h : XH), LY h → K370 x1 x2 x5 x7 x8 x11 h = some r → XR l G xEX12_vector (d + 3) (370, [some (.ref 1262), some (.int x1), some (.int x2), none, none, some (.int x5), none, some (.int x7), some (.int x8), none, none, some (.int x11)], [], h) (fun C => ∃ v, xRet xEX12_vector C v ∧ (C.2.2.2 = r.2 ∧ v = some (.int r.1)) ∧ LY r.2)) (L0 : LY h) (hf : b_m_vector_425 K370 x1 x2 x5 x7 x8 x11 h = some r) : XR l G xEX12_vector (d + 3) (425, [some (.ref 1262), some (.int x1), some (.int x2), none, none, some (.int x5), none, some (.int x7), some (.int x8), none, none, some (.int x11)], [], h) (fun C => ∃ v, xRet xEX12_vector C v ∧ (C.2.2.2 = r.2 ∧ v = some (.int r.1)) ∧ LY r.2) := by
  unfold b_m_vector_425 at hf
  refine XS.go (s_dec rfl rfl (Nat.le_of_ble_eq_true rfl)) ?_
  refine XS.go (s_goto (tgt := 370) rfl rfl) ?_
  exact XR.forget (L2 := [some (.ref 1262), some (.int x1), some (.int x2), none, none, some (.int x5), none, some (.int x7), some (.int x8), none, none, some (.int (x11 + (-1)))]) ⟨rfl, ⟨rfl, ⟨rfl, ⟨rfl, ⟨rfl, ⟨rfl, ⟨rfl, trivial⟩⟩⟩⟩⟩⟩⟩ (hK370 x1 x2 x5 x7 x8 (x11 + (-1)) _ L0 hf)
def s_m_vector_370 (K370 : Int32 → Int32 → Int32 → Int32 → Int32 → Int32 → XH → Option (Int32 × XH)) (x1 : Int32) (x2 : Int32) (x5 : Int32) (x7 : Int32) (x8 : Int32) (x11 : Int32) (h : XH) : Option (Int32 × XH) := (if x11 < 0 then (match f_m_ahead (Int32.toInt64 x7) 4 h with | none => none | some r5 => (if ¬ x1 = 1 then (b_m_vector_452 5 x1 x2 r5.2) else (b_m_vector_452 5 x1 0 r5.2))) else (if ¬ x1 = 0 then (if ¬ x1 = 2 then (if 0 ≤ x11 ∧ x11 < nI 600 then (match f_m_reference (Int64.toInt32 (hj h 1298 (Int32.toNatClampNeg x11))) h with | none => none | some r12 => (b_m_vector_425 K370 x1 x2 x5 x7 x8 x11 r12.2)) else none) else (match f_m_putStruct x2 (x11 * x5) h with | none => none | some r15 => (b_m_vector_425 K370 x1 x2 x5 x7 x8 x11 r15.2))) else (if 0 ≤ x11 ∧ x11 < nI 600 then (match f_m_ahead (hj h 1298 (Int32.toNatClampNeg x11)) x8 h with | none => none | some r19 => (b_m_vector_425 K370 x1 x2 x5 x7 x8 x11 r19.2)) else none)))
set_option maxRecDepth 20000 in
theorem ks_m_vector_370 {l : Launch} {G : XG} {d : Nat} {K370 : Int32 → Int32 → Int32 → Int32 → Int32 → Int32 → XH → Option (Int32 × XH)} {x1 : Int32} {x2 : Int32} {x5 : Int32} {x7 : Int32} {x8 : Int32} {x11 : Int32} {h : XH} {r : Int32 × XH} (hK370 : ∀ (x1 : Int32) (x2 : Int32) (x5 : Int32) (x7 : Int32) (x8 : Int32) (x11 : Int32) (h : XH), LY h → K370 x1 x2 x5 x7 x8 x11 h = some r → XR l G xEX12_vector (d + 3) (370, [some (.ref 1262), some (.int x1), some (.int x2), none, none, some (.int x5), none, some (.int x7), some (.int x8), none, none, some (.int x11)], [], h) (fun C => ∃ v, xRet xEX12_vector C v ∧ (C.2.2.2 = r.2 ∧ v = some (.int r.1)) ∧ LY r.2)) (L0 : LY h) (hf : s_m_vector_370 K370 x1 x2 x5 x7 x8 x11 h = some r) : XR l G xEX12_vector (d + 3) (370, [some (.ref 1262), some (.int x1), some (.int x2), none, none, some (.int x5), none, some (.int x7), some (.int x8), none, none, some (.int x11)], [], h) (fun C => ∃ v, xRet xEX12_vector C v ∧ (C.2.2.2 = r.2 ∧ v = some (.int r.1)) ∧ LY r.2) := by
  unfold s_m_vector_370 at hf
  refine XS.go (s_iload rfl rfl) ?_
  refine r_if_lt (tgt := 431) rfl rfl (fun qc4 => ?_) (fun qc4 => ?_)
  · rw [if_pos qc4] at hf
    refine XS.go (s_aloadn rfl rfl rfl) ?_
    refine XS.go (s_iload rfl rfl) ?_
    refine XS.go (s_i2l rfl) ?_
    refine XS.go (s_iconst (v := 4) rfl rfl) ?_
    rcases e6 : f_m_ahead (Int32.toInt64 x7) 4 h with _ | r5
    · rw [e6] at hf; cases hf
    rw [e6] at hf; dsimp only at hf
    refine r_callv rfl xvX12_ahead xm12_396 (kf_m_ahead (d := d) L0 e6) (LY.lt L0 (by decide)) (LY.k1262 L0) (by decide) rfl rfl (by omega) (by decide) (Nat.le_of_ble_eq_true rfl) ?_
    rintro _ _ ⟨⟨rfl, rfl⟩, L7⟩
    refine XS.go (s_aloadn rfl rfl rfl) ?_
    refine XS.go (s_iconst (v := 5) rfl rfl) ?_
    refine XS.go (s_iloadn rfl rfl rfl) ?_
    refine XS.go (s_iloadn rfl rfl rfl) ?_
    refine XS.go (s_iconst (v := 1) rfl rfl) ?_
    refine r_icmp_ne (tgt := 451) rfl rfl (fun qc8 => ?_) (fun qc8 => ?_)
    · rw [if_pos qc8] at hf
      refine XS.go (s_iloadn rfl rfl rfl) ?_
      exact XR.forget (L2 := [none, none, none, none, none, none, none, none, none, none, none, none]) trivial (kb_m_vector_452 L7 hf)
    · rw [if_neg qc8] at hf
      refine XS.go (s_iconst (v := 0) rfl rfl) ?_
      refine XS.go (s_goto (tgt := 452) rfl rfl) ?_
      exact XR.forget (L2 := [none, none, none, none, none, none, none, none, none, none, none, none]) trivial (kb_m_vector_452 L7 hf)
  · rw [if_neg qc4] at hf
    refine XS.go (s_iloadn rfl rfl rfl) ?_
    refine r_if_ne (tgt := 395) rfl rfl (fun qc9 => ?_) (fun qc9 => ?_)
    · rw [if_pos qc9] at hf
      refine XS.go (s_iloadn rfl rfl rfl) ?_
      refine XS.go (s_iconst (v := 2) rfl rfl) ?_
      refine r_icmp_ne (tgt := 413) rfl rfl (fun qc10 => ?_) (fun qc10 => ?_)
      · rw [if_pos qc10] at hf
        refine XS.go (s_aloadn rfl rfl rfl) ?_
        refine XS.go (s_aloadn rfl rfl rfl) ?_
        refine XS.go (s_getr rfl xf12_116 (LY.lt L0 (by decide)) (LY.k1262 L0) (by decide) rfl (LY.r1262_54 L0)) ?_
        refine XS.go (s_iload rfl rfl) ?_
        by_cases qk11 : 0 ≤ x11 ∧ x11 < nI 600
        rotate_left
        · rw [if_neg qk11] at hf; cases hf
        rw [if_pos qk11] at hf
        refine XS.go (s_lalde rfl (LY.lt L0 (by decide)) (LY.k1298 L0) (inLit (LY.n1298 L0) qk11.1 qk11.2 (by decide)) rfl) ?_
        refine XS.go (s_l2i rfl) ?_
        rcases e13 : f_m_reference (Int64.toInt32 (hj h 1298 (Int32.toNatClampNeg x11))) h with _ | r12
        · rw [e13] at hf; cases hf
        rw [e13] at hf; dsimp only at hf
        refine r_callv rfl xvX12_reference xm12_423 (kf_m_reference (d := d) L0 e13) (LY.lt L0 (by decide)) (LY.k1262 L0) (by decide) rfl rfl (by omega) (by decide) (Nat.le_of_ble_eq_true rfl) ?_
        rintro _ _ ⟨⟨rfl, rfl⟩, L14⟩
        exact XR.forget (L2 := [some (.ref 1262), some (.int x1), some (.int x2), none, none, some (.int x5), none, some (.int x7), some (.int x8), none, none, some (.int x11)]) ⟨rfl, ⟨rfl, ⟨rfl, ⟨rfl, ⟨rfl, ⟨rfl, ⟨rfl, trivial⟩⟩⟩⟩⟩⟩⟩ (kb_m_vector_425 hK370 L14 hf)
      · rw [if_neg qc10] at hf
        refine XS.go (s_aloadn rfl rfl rfl) ?_
        refine XS.go (s_iloadn rfl rfl rfl) ?_
        refine XS.go (s_iload rfl rfl) ?_
        refine XS.go (s_iload rfl rfl) ?_
        refine XS.go (s_imul rfl) ?_
        rcases e16 : f_m_putStruct x2 (x11 * x5) h with _ | r15
        · rw [e16] at hf; cases hf
        rw [e16] at hf; dsimp only at hf
        refine r_callv rfl xvX12_putStruct xm12_420 (kf_m_putStruct (d := d) L0 e16) (LY.lt L0 (by decide)) (LY.k1262 L0) (by decide) rfl rfl (by omega) (by decide) (Nat.le_of_ble_eq_true rfl) ?_
        rintro _ _ ⟨⟨rfl, rfl⟩, L17⟩
        refine XS.go (s_goto (tgt := 425) rfl rfl) ?_
        exact XR.forget (L2 := [some (.ref 1262), some (.int x1), some (.int x2), none, none, some (.int x5), none, some (.int x7), some (.int x8), none, none, some (.int x11)]) ⟨rfl, ⟨rfl, ⟨rfl, ⟨rfl, ⟨rfl, ⟨rfl, ⟨rfl, trivial⟩⟩⟩⟩⟩⟩⟩ (kb_m_vector_425 hK370 L17 hf)
    · rw [if_neg qc9] at hf
      refine XS.go (s_aloadn rfl rfl rfl) ?_
      refine XS.go (s_aloadn rfl rfl rfl) ?_
      refine XS.go (s_getr rfl xf12_116 (LY.lt L0 (by decide)) (LY.k1262 L0) (by decide) rfl (LY.r1262_54 L0)) ?_
      refine XS.go (s_iload rfl rfl) ?_
      by_cases qk18 : 0 ≤ x11 ∧ x11 < nI 600
      rotate_left
      · rw [if_neg qk18] at hf; cases hf
      rw [if_pos qk18] at hf
      refine XS.go (s_lalde rfl (LY.lt L0 (by decide)) (LY.k1298 L0) (inLit (LY.n1298 L0) qk18.1 qk18.2 (by decide)) rfl) ?_
      refine XS.go (s_iload rfl rfl) ?_
      rcases e20 : f_m_ahead (hj h 1298 (Int32.toNatClampNeg x11)) x8 h with _ | r19
      · rw [e20] at hf; cases hf
      rw [e20] at hf; dsimp only at hf
      refine r_callv rfl xvX12_ahead xm12_396 (kf_m_ahead (d := d) L0 e20) (LY.lt L0 (by decide)) (LY.k1262 L0) (by decide) rfl rfl (by omega) (by decide) (Nat.le_of_ble_eq_true rfl) ?_
      rintro _ _ ⟨⟨rfl, rfl⟩, L21⟩
      refine XS.go (s_goto (tgt := 425) rfl rfl) ?_
      exact XR.forget (L2 := [some (.ref 1262), some (.int x1), some (.int x2), none, none, some (.int x5), none, some (.int x7), some (.int x8), none, none, some (.int x11)]) ⟨rfl, ⟨rfl, ⟨rfl, ⟨rfl, ⟨rfl, ⟨rfl, ⟨rfl, trivial⟩⟩⟩⟩⟩⟩⟩ (kb_m_vector_425 hK370 L21 hf)
def b_m_vector_370 : Nat → Int32 → Int32 → Int32 → Int32 → Int32 → Int32 → XH → Option (Int32 × XH)
  | 0, _, _, _, _, _, _, _ => none
  | n + 1, x1, x2, x5, x7, x8, x11, h => s_m_vector_370 (b_m_vector_370 n) x1 x2 x5 x7 x8 x11 h
theorem kb_m_vector_370 {l : Launch} {G : XG} {d : Nat} {n : Nat} {x1 : Int32} {x2 : Int32} {x5 : Int32} {x7 : Int32} {x8 : Int32} {x11 : Int32} {h : XH} {r : Int32 × XH} (L0 : LY h) (hf : b_m_vector_370 n x1 x2 x5 x7 x8 x11 h = some r) : XR l G xEX12_vector (d + 3) (370, [some (.ref 1262), some (.int x1), some (.int x2), none, none, some (.int x5), none, some (.int x7), some (.int x8), none, none, some (.int x11)], [], h) (fun C => ∃ v, xRet xEX12_vector C v ∧ (C.2.2.2 = r.2 ∧ v = some (.int r.1)) ∧ LY r.2) := by
  induction n generalizing x1 x2 x5 x7 x8 x11 h with
  | zero => cases hf
  | succ n ih => exact ks_m_vector_370 (fun x1 x2 x5 x7 x8 x11 h L0 hf => ih (h := h) (x1 := x1) (x2 := x2) (x5 := x5) (x7 := x7) (x8 := x8) (x11 := x11) L0 hf) L0 hf
def b_m_vector_345 (h : XH) : Option (Int32 × XH) := (some (0, (hsi h 1262 0 3)))
set_option maxRecDepth 20000 in
theorem kb_m_vector_345 {l : Launch} {G : XG} {d : Nat} {h : XH} {r : Int32 × XH} (L0 : LY h) (hf : b_m_vector_345 h = some r) : XR l G xEX12_vector (d + 3) (345, [some (.ref 1262), none, none, none, none, none, none, none, none, none, none, none], [], h) (fun C => ∃ v, xRet xEX12_vector C v ∧ (C.2.2.2 = r.2 ∧ v = some (.int r.1)) ∧ LY r.2) := by
  unfold b_m_vector_345 at hf
  refine XS.go (s_aloadn rfl rfl rfl) ?_
  refine XS.go (s_iconst (v := 3) rfl rfl) ?_
  refine XS.go (s_puti rfl xf12_175 (LY.lt L0 (by decide)) (LY.k1262 L0) (by decide) rfl (Or.inl rfl)) ?_
  refine XS.go (s_iconst (v := 0) rfl rfl) ?_
  cases hf
  exact XR.reti rfl rfl (fun hret => ⟨_, hret, ⟨rfl, rfl⟩, (by simp only [LY_si, LY_sj]; exact L0)⟩)
def b_m_vector_309 (x1 : Int32) (x2 : Int32) (x5 : Int32) (x7 : Int32) (x8 : Int32) (x9 : Int32) (y1 : Int32) (y2 : Int32) (y3 : Int32) (h : XH) : Option (Int32 × XH) := (match f_m_fill y1 y2 y3 h with | none => none | some r22 => (if (hi r22.2 1262 59) = 300 then (b_m_vector_345 r22.2) else (if ((((hi r22.2 1262 57) + r22.1) + (x7 * x8)) + 4) ≤ 4000 then (match f_m_aligned x9 r22.2 with | none => none | some r27 => (match f_m_zeros r22.1 r27.2 with | none => none | some r30 => (b_m_vector_370 100000 x1 x2 x5 x7 x8 (x7 - 1) r30.2))) else (b_m_vector_345 r22.2))))
set_option maxRecDepth 20000 in
theorem kb_m_vector_309 {l : Launch} {G : XG} {d : Nat} {x1 : Int32} {x2 : Int32} {x5 : Int32} {x7 : Int32} {x8 : Int32} {x9 : Int32} {y1 : Int32} {y2 : Int32} {y3 : Int32} {h : XH} {r : Int32 × XH} (L0 : LY h) (hf : b_m_vector_309 x1 x2 x5 x7 x8 x9 y1 y2 y3 h = some r) : XR l G xEX12_vector (d + 3) (309, [some (.ref 1262), some (.int x1), some (.int x2), none, none, some (.int x5), none, some (.int x7), some (.int x8), some (.int x9), none, none], [(.int y3), (.int y2), (.int y1), (.ref 1262)], h) (fun C => ∃ v, xRet xEX12_vector C v ∧ (C.2.2.2 = r.2 ∧ v = some (.int r.1)) ∧ LY r.2) := by
  unfold b_m_vector_309 at hf
  rcases e23 : f_m_fill y1 y2 y3 h with _ | r22
  · rw [e23] at hf; cases hf
  rw [e23] at hf; dsimp only at hf
  refine r_callv rfl xvX12_fill xm12_400 (kf_m_fill (d := d) L0 e23) (LY.lt L0 (by decide)) (LY.k1262 L0) (by decide) rfl rfl (by omega) (by decide) (Nat.le_of_ble_eq_true rfl) ?_
  rintro _ _ ⟨⟨rfl, rfl⟩, L24⟩
  refine XS.go (s_istore rfl (Nat.le_of_ble_eq_true rfl)) ?_
  refine XS.go (s_aloadn rfl rfl rfl) ?_
  refine XS.go (s_getie rfl xf12_388 (LY.lt L24 (by decide)) (LY.k1262 L24) (by decide) rfl rfl) ?_
  refine XS.go (s_sipush (v := 300) rfl rfl) ?_
  refine r_icmp_eq (tgt := 345) rfl rfl (fun qc25 => ?_) (fun qc25 => ?_)
  · rw [if_pos qc25] at hf
    exact XR.forget (L2 := [some (.ref 1262), none, none, none, none, none, none, none, none, none, none, none]) ⟨rfl, trivial⟩ (kb_m_vector_345 L24 hf)
  · rw [if_neg qc25] at hf
    refine XS.go (s_aloadn rfl rfl rfl) ?_
    refine XS.go (s_getie rfl xf12_382 (LY.lt L24 (by decide)) (LY.k1262 L24) (by decide) rfl rfl) ?_
    refine XS.go (s_iload rfl rfl) ?_
    refine XS.go (s_iadd rfl) ?_
    refine XS.go (s_iload rfl rfl) ?_
    refine XS.go (s_iload rfl rfl) ?_
    refine XS.go (s_imul rfl) ?_
    refine XS.go (s_iadd rfl) ?_
    refine XS.go (s_iconst (v := 4) rfl rfl) ?_
    refine XS.go (s_iadd rfl) ?_
    refine XS.go (s_sipush (v := 4000) rfl rfl) ?_
    refine r_icmp_le (tgt := 352) rfl rfl (fun qc26 => ?_) (fun qc26 => ?_)
    · rw [if_pos qc26] at hf
      refine XS.go (s_aloadn rfl rfl rfl) ?_
      refine XS.go (s_iload rfl rfl) ?_
      rcases e28 : f_m_aligned x9 r22.2 with _ | r27
      · rw [e28] at hf; cases hf
      rw [e28] at hf; dsimp only at hf
      refine r_callv rfl xvX12_aligned xm12_404 (kf_m_aligned (d := d) L24 e28) (LY.lt L24 (by decide)) (LY.k1262 L24) (by decide) rfl rfl (by omega) (by decide) (Nat.le_of_ble_eq_true rfl) ?_
      rintro _ _ ⟨⟨rfl, rfl⟩, L29⟩
      refine XS.go (s_aloadn rfl rfl rfl) ?_
      refine XS.go (s_iload rfl rfl) ?_
      rcases e31 : f_m_zeros r22.1 r27.2 with _ | r30
      · rw [e31] at hf; cases hf
      rw [e31] at hf; dsimp only at hf
      refine r_callv rfl xvX12_zeros xm12_407 (kf_m_zeros (d := d) L29 e31) (LY.lt L29 (by decide)) (LY.k1262 L29) (by decide) rfl rfl (by omega) (by decide) (Nat.le_of_ble_eq_true rfl) ?_
      rintro _ _ ⟨⟨rfl, rfl⟩, L32⟩
      refine XS.go (s_iload rfl rfl) ?_
      refine XS.go (s_iconst (v := 1) rfl rfl) ?_
      refine XS.go (s_isub rfl) ?_
      refine XS.go (s_istore rfl (Nat.le_of_ble_eq_true rfl)) ?_
      exact XR.forget (L2 := [some (.ref 1262), some (.int x1), some (.int x2), none, none, some (.int x5), none, some (.int x7), some (.int x8), none, none, some (.int (x7 - 1))]) ⟨rfl, ⟨rfl, ⟨rfl, ⟨rfl, ⟨rfl, ⟨rfl, ⟨rfl, trivial⟩⟩⟩⟩⟩⟩⟩ (kb_m_vector_370 L32 hf)
    · rw [if_neg qc26] at hf
      exact XR.forget (L2 := [some (.ref 1262), none, none, none, none, none, none, none, none, none, none, none]) ⟨rfl, trivial⟩ (kb_m_vector_345 L24 hf)
def b_m_vector_285 (x1 : Int32) (x2 : Int32) (x5 : Int32) (x7 : Int32) (x8 : Int32) (y0 : Int32) (h : XH) : Option (Int32 × XH) := (if y0 ≤ 4 then (b_m_vector_309 x1 x2 x5 x7 x8 y0 (hi h 1262 57) (x7 * x8) 4 h) else (b_m_vector_309 x1 x2 x5 x7 x8 y0 (hi h 1262 57) (x7 * x8) y0 h))
set_option maxRecDepth 20000 in
theorem kb_m_vector_285 {l : Launch} {G : XG} {d : Nat} {x1 : Int32} {x2 : Int32} {x5 : Int32} {x7 : Int32} {x8 : Int32} {y0 : Int32} {h : XH} {r : Int32 × XH} (L0 : LY h) (hf : b_m_vector_285 x1 x2 x5 x7 x8 y0 h = some r) : XR l G xEX12_vector (d + 3) (285, [some (.ref 1262), some (.int x1), some (.int x2), none, none, some (.int x5), none, some (.int x7), some (.int x8), none, none, none], [(.int y0)], h) (fun C => ∃ v, xRet xEX12_vector C v ∧ (C.2.2.2 = r.2 ∧ v = some (.int r.1)) ∧ LY r.2) := by
  unfold b_m_vector_285 at hf
  refine XS.go (s_istore rfl (Nat.le_of_ble_eq_true rfl)) ?_
  refine XS.go (s_aloadn rfl rfl rfl) ?_
  refine XS.go (s_aloadn rfl rfl rfl) ?_
  refine XS.go (s_getie rfl xf12_382 (LY.lt L0 (by decide)) (LY.k1262 L0) (by decide) rfl rfl) ?_
  refine XS.go (s_iload rfl rfl) ?_
  refine XS.go (s_iload rfl rfl) ?_
  refine XS.go (s_imul rfl) ?_
  refine XS.go (s_iload rfl rfl) ?_
  refine XS.go (s_iconst (v := 4) rfl rfl) ?_
  refine r_icmp_le (tgt := 308) rfl rfl (fun qc33 => ?_) (fun qc33 => ?_)
  · rw [if_pos qc33] at hf
    refine XS.go (s_iconst (v := 4) rfl rfl) ?_
    exact XR.forget (L2 := [some (.ref 1262), some (.int x1), some (.int x2), none, none, some (.int x5), none, some (.int x7), some (.int x8), some (.int y0), none, none]) ⟨rfl, ⟨rfl, ⟨rfl, ⟨rfl, ⟨rfl, ⟨rfl, ⟨rfl, trivial⟩⟩⟩⟩⟩⟩⟩ (kb_m_vector_309 L0 hf)
  · rw [if_neg qc33] at hf
    refine XS.go (s_iload rfl rfl) ?_
    refine XS.go (s_goto (tgt := 309) rfl rfl) ?_
    exact XR.forget (L2 := [some (.ref 1262), some (.int x1), some (.int x2), none, none, some (.int x5), none, some (.int x7), some (.int x8), some (.int y0), none, none]) ⟨rfl, ⟨rfl, ⟨rfl, ⟨rfl, ⟨rfl, ⟨rfl, ⟨rfl, trivial⟩⟩⟩⟩⟩⟩⟩ (kb_m_vector_309 L0 hf)
def b_m_vector_259 (x1 : Int32) (x2 : Int32) (x5 : Int32) (x7 : Int32) (y0 : Int32) (h : XH) : Option (Int32 × XH) := (if ¬ x1 = 0 then (if ¬ x1 = 2 then (b_m_vector_285 x1 x2 x5 x7 y0 4 h) else (if 0 ≤ x2 ∧ x2 < nI 12 then (b_m_vector_285 x1 x2 x5 x7 y0 (hi h 1275 (Int32.toNatClampNeg x2)) h) else none)) else (b_m_vector_285 x1 x2 x5 x7 y0 y0 h))
set_option maxRecDepth 20000 in
theorem kb_m_vector_259 {l : Launch} {G : XG} {d : Nat} {x1 : Int32} {x2 : Int32} {x5 : Int32} {x7 : Int32} {y0 : Int32} {h : XH} {r : Int32 × XH} (L0 : LY h) (hf : b_m_vector_259 x1 x2 x5 x7 y0 h = some r) : XR l G xEX12_vector (d + 3) (259, [some (.ref 1262), some (.int x1), some (.int x2), none, none, some (.int x5), none, some (.int x7), none, none, none, none], [(.int y0)], h) (fun C => ∃ v, xRet xEX12_vector C v ∧ (C.2.2.2 = r.2 ∧ v = some (.int r.1)) ∧ LY r.2) := by
  unfold b_m_vector_259 at hf
  refine XS.go (s_istore rfl (Nat.le_of_ble_eq_true rfl)) ?_
  refine XS.go (s_iloadn rfl rfl rfl) ?_
  refine r_if_ne (tgt := 270) rfl rfl (fun qc34 => ?_) (fun qc34 => ?_)
  · rw [if_pos qc34] at hf
    refine XS.go (s_iloadn rfl rfl rfl) ?_
    refine XS.go (s_iconst (v := 2) rfl rfl) ?_
    refine r_icmp_ne (tgt := 284) rfl rfl (fun qc35 => ?_) (fun qc35 => ?_)
    · rw [if_pos qc35] at hf
      refine XS.go (s_iconst (v := 4) rfl rfl) ?_
      exact XR.forget (L2 := [some (.ref 1262), some (.int x1), some (.int x2), none, none, some (.int x5), none, some (.int x7), some (.int y0), none, none, none]) ⟨rfl, ⟨rfl, ⟨rfl, ⟨rfl, ⟨rfl, ⟨rfl, trivial⟩⟩⟩⟩⟩⟩ (kb_m_vector_285 L0 hf)
    · rw [if_neg qc35] at hf
      refine XS.go (s_aloadn rfl rfl rfl) ?_
      refine XS.go (s_getr rfl xf12_46 (LY.lt L0 (by decide)) (LY.k1262 L0) (by decide) rfl (LY.r1262_23 L0)) ?_
      refine XS.go (s_iloadn rfl rfl rfl) ?_
      by_cases qk36 : 0 ≤ x2 ∧ x2 < nI 12
      rotate_left
      · rw [if_neg qk36] at hf; cases hf
      rw [if_pos qk36] at hf
      refine XS.go (s_ialde rfl (LY.lt L0 (by decide)) (LY.k1275 L0) (inLit (LY.n1275 L0) qk36.1 qk36.2 (by decide)) rfl) ?_
      refine XS.go (s_goto (tgt := 285) rfl rfl) ?_
      exact XR.forget (L2 := [some (.ref 1262), some (.int x1), some (.int x2), none, none, some (.int x5), none, some (.int x7), some (.int y0), none, none, none]) ⟨rfl, ⟨rfl, ⟨rfl, ⟨rfl, ⟨rfl, ⟨rfl, trivial⟩⟩⟩⟩⟩⟩ (kb_m_vector_285 L0 hf)
  · rw [if_neg qc34] at hf
    refine XS.go (s_iload rfl rfl) ?_
    refine XS.go (s_goto (tgt := 285) rfl rfl) ?_
    exact XR.forget (L2 := [some (.ref 1262), some (.int x1), some (.int x2), none, none, some (.int x5), none, some (.int x7), some (.int y0), none, none, none]) ⟨rfl, ⟨rfl, ⟨rfl, ⟨rfl, ⟨rfl, ⟨rfl, trivial⟩⟩⟩⟩⟩⟩ (kb_m_vector_285 L0 hf)
def b_m_vector_215 (x1 : Int32) (x2 : Int32) (x3 : Int32) (x5 : Int32) (x6 : Int32) (h : XH) : Option (Int32 × XH) := (if ¬ x6 = 0 then (if ¬ x5 = 0 then (if ¬ x1 = 0 then (if ¬ x1 = 2 then (b_m_vector_259 x1 x2 x5 (x3 / x5) 4 h) else (if 0 ≤ x2 ∧ x2 < nI 12 then (b_m_vector_259 x1 x2 x5 (x3 / x5) (hi h 1274 (Int32.toNatClampNeg x2)) h) else none)) else (match f_m_bytesOf x2 h with | none => none | some r42 => (b_m_vector_259 x1 x2 x5 (x3 / x5) r42.1 r42.2))) else none) else (some (0, (hsi h 1262 0 2))))
set_option maxRecDepth 20000 in
theorem kb_m_vector_215 {l : Launch} {G : XG} {d : Nat} {x1 : Int32} {x2 : Int32} {x3 : Int32} {x5 : Int32} {x6 : Int32} {h : XH} {r : Int32 × XH} (L0 : LY h) (hf : b_m_vector_215 x1 x2 x3 x5 x6 h = some r) : XR l G xEX12_vector (d + 3) (215, [some (.ref 1262), some (.int x1), some (.int x2), some (.int x3), none, some (.int x5), some (.int x6), none, none, none, none, none], [], h) (fun C => ∃ v, xRet xEX12_vector C v ∧ (C.2.2.2 = r.2 ∧ v = some (.int r.1)) ∧ LY r.2) := by
  unfold b_m_vector_215 at hf
  refine XS.go (s_iload rfl rfl) ?_
  refine r_if_ne (tgt := 227) rfl rfl (fun qc37 => ?_) (fun qc37 => ?_)
  · rw [if_pos qc37] at hf
    refine XS.go (s_iloadn rfl rfl rfl) ?_
    refine XS.go (s_iload rfl rfl) ?_
    by_cases qk38 : ¬ x5 = 0
    rotate_left
    · rw [if_neg qk38] at hf; cases hf
    rw [if_pos qk38] at hf
    refine XS.go (s_idiv qk38 rfl) ?_
    refine XS.go (s_istore rfl (Nat.le_of_ble_eq_true rfl)) ?_
    refine XS.go (s_iloadn rfl rfl rfl) ?_
    refine r_if_ne (tgt := 244) rfl rfl (fun qc39 => ?_) (fun qc39 => ?_)
    · rw [if_pos qc39] at hf
      refine XS.go (s_iloadn rfl rfl rfl) ?_
      refine XS.go (s_iconst (v := 2) rfl rfl) ?_
      refine r_icmp_ne (tgt := 258) rfl rfl (fun qc40 => ?_) (fun qc40 => ?_)
      · rw [if_pos qc40] at hf
        refine XS.go (s_iconst (v := 4) rfl rfl) ?_
        exact XR.forget (L2 := [some (.ref 1262), some (.int x1), some (.int x2), none, none, some (.int x5), none, some (.int (x3 / x5)), none, none, none, none]) ⟨rfl, ⟨rfl, ⟨rfl, ⟨rfl, ⟨rfl, trivial⟩⟩⟩⟩⟩ (kb_m_vector_259 L0 hf)
      · rw [if_neg qc40] at hf
        refine XS.go (s_aloadn rfl rfl rfl) ?_
        refine XS.go (s_getr rfl xf12_43 (LY.lt L0 (by decide)) (LY.k1262 L0) (by decide) rfl (LY.r1262_22 L0)) ?_
        refine XS.go (s_iloadn rfl rfl rfl) ?_
        by_cases qk41 : 0 ≤ x2 ∧ x2 < nI 12
        rotate_left
        · rw [if_neg qk41] at hf; cases hf
        rw [if_pos qk41] at hf
        refine XS.go (s_ialde rfl (LY.lt L0 (by decide)) (LY.k1274 L0) (inLit (LY.n1274 L0) qk41.1 qk41.2 (by decide)) rfl) ?_
        refine XS.go (s_goto (tgt := 259) rfl rfl) ?_
        exact XR.forget (L2 := [some (.ref 1262), some (.int x1), some (.int x2), none, none, some (.int x5), none, some (.int (x3 / x5)), none, none, none, none]) ⟨rfl, ⟨rfl, ⟨rfl, ⟨rfl, ⟨rfl, trivial⟩⟩⟩⟩⟩ (kb_m_vector_259 L0 hf)
    · rw [if_neg qc39] at hf
      refine XS.go (s_iloadn rfl rfl rfl) ?_
      rcases e43 : f_m_bytesOf x2 h with _ | r42
      · rw [e43] at hf; cases hf
      rw [e43] at hf; dsimp only at hf
      refine r_calls rfl xsX12_bytesOf xm12_315 (kf_m_bytesOf (d := d) L0 e43) rfl rfl (by omega) (by decide) (Nat.le_of_ble_eq_true rfl) ?_
      rintro _ _ ⟨⟨rfl, rfl⟩, L44⟩
      refine XS.go (s_goto (tgt := 259) rfl rfl) ?_
      exact XR.forget (L2 := [some (.ref 1262), some (.int x1), some (.int x2), none, none, some (.int x5), none, some (.int (x3 / x5)), none, none, none, none]) ⟨rfl, ⟨rfl, ⟨rfl, ⟨rfl, ⟨rfl, trivial⟩⟩⟩⟩⟩ (kb_m_vector_259 L44 hf)
  · rw [if_neg qc37] at hf
    refine XS.go (s_aloadn rfl rfl rfl) ?_
    refine XS.go (s_iconst (v := 2) rfl rfl) ?_
    refine XS.go (s_puti rfl xf12_175 (LY.lt L0 (by decide)) (LY.k1262 L0) (by decide) rfl (Or.inl rfl)) ?_
    refine XS.go (s_iconst (v := 0) rfl rfl) ?_
    cases hf
    exact XR.reti rfl rfl (fun hret => ⟨_, hret, ⟨rfl, rfl⟩, (by simp only [LY_si, LY_sj]; exact L0)⟩)
def b_m_vector_203 (K136 : Int32 → Int32 → Int32 → Int32 → Int32 → Int32 → XH → Option (Int32 × XH)) (x1 : Int32) (x2 : Int32) (x3 : Int32) (x5 : Int32) (x7 : Int32) (y0 : Int32) (h : XH) : Option (Int32 × XH) := (K136 x1 x2 x3 x5 y0 (x7 + x5) h)
set_option maxRecDepth 20000 in
theorem kb_m_vector_203 {l : Launch} {G : XG} {d : Nat} {K136 : Int32 → Int32 → Int32 → Int32 → Int32 → Int32 → XH → Option (Int32 × XH)} {x1 : Int32} {x2 : Int32} {x3 : Int32} {x5 : Int32} {x7 : Int32} {y0 : Int32} {h : XH} {r : Int32 × XH} (hK136 : ∀ (x1 : Int32) (x2 : Int32) (x3 : Int32) (x5 : Int32) (x6 : Int32) (x7 : Int32) (h : XH), LY h → K136 x1 x2 x3 x5 x6 x7 h = some r → XR l G xEX12_vector (d + 3) (136, [some (.ref 1262), some (.int x1), some (.int x2), some (.int x3), none, some (.int x5), some (.int x6), some (.int x7), none, none, none, none], [], h) (fun C => ∃ v, xRet xEX12_vector C v ∧ (C.2.2.2 = r.2 ∧ v = some (.int r.1)) ∧ LY r.2)) (L0 : LY h) (hf : b_m_vector_203 K136 x1 x2 x3 x5 x7 y0 h = some r) : XR l G xEX12_vector (d + 3) (203, [some (.ref 1262), some (.int x1), some (.int x2), some (.int x3), none, some (.int x5), none, some (.int x7), none, none, none, none], [(.int y0)], h) (fun C => ∃ v, xRet xEX12_vector C v ∧ (C.2.2.2 = r.2 ∧ v = some (.int r.1)) ∧ LY r.2) := by
  unfold b_m_vector_203 at hf
  refine XS.go (s_istore rfl (Nat.le_of_ble_eq_true rfl)) ?_
  refine XS.go (s_iload rfl rfl) ?_
  refine XS.go (s_iload rfl rfl) ?_
  refine XS.go (s_iadd rfl) ?_
  refine XS.go (s_istore rfl (Nat.le_of_ble_eq_true rfl)) ?_
  refine XS.go (s_goto (tgt := 136) rfl rfl) ?_
  exact XR.forget (L2 := [some (.ref 1262), some (.int x1), some (.int x2), some (.int x3), none, some (.int x5), some (.int y0), some (.int (x7 + x5)), none, none, none, none]) ⟨rfl, ⟨rfl, ⟨rfl, ⟨rfl, ⟨rfl, ⟨rfl, ⟨rfl, trivial⟩⟩⟩⟩⟩⟩⟩ (hK136 x1 x2 x3 x5 y0 (x7 + x5) _ L0 hf)
def b_m_vector_200 (K136 : Int32 → Int32 → Int32 → Int32 → Int32 → Int32 → XH → Option (Int32 × XH)) (x1 : Int32) (x2 : Int32) (x3 : Int32) (x5 : Int32) (x7 : Int32) (y1 : Int64) (y2 : Int32) (y3 : Int32) (y4 : Int32) (h : XH) : Option (Int32 × XH) := (match f_m_isThing y1 y2 y3 y4 h with | none => none | some r45 => (b_m_vector_203 K136 x1 x2 x3 x5 x7 r45.1 r45.2))
set_option maxRecDepth 20000 in
theorem kb_m_vector_200 {l : Launch} {G : XG} {d : Nat} {K136 : Int32 → Int32 → Int32 → Int32 → Int32 → Int32 → XH → Option (Int32 × XH)} {x1 : Int32} {x2 : Int32} {x3 : Int32} {x5 : Int32} {x7 : Int32} {y1 : Int64} {y2 : Int32} {y3 : Int32} {y4 : Int32} {h : XH} {r : Int32 × XH} (hK136 : ∀ (x1 : Int32) (x2 : Int32) (x3 : Int32) (x5 : Int32) (x6 : Int32) (x7 : Int32) (h : XH), LY h → K136 x1 x2 x3 x5 x6 x7 h = some r → XR l G xEX12_vector (d + 3) (136, [some (.ref 1262), some (.int x1), some (.int x2), some (.int x3), none, some (.int x5), some (.int x6), some (.int x7), none, none, none, none], [], h) (fun C => ∃ v, xRet xEX12_vector C v ∧ (C.2.2.2 = r.2 ∧ v = some (.int r.1)) ∧ LY r.2)) (L0 : LY h) (hf : b_m_vector_200 K136 x1 x2 x3 x5 x7 y1 y2 y3 y4 h = some r) : XR l G xEX12_vector (d + 3) (200, [some (.ref 1262), some (.int x1), some (.int x2), some (.int x3), none, some (.int x5), none, some (.int x7), none, none, none, none], [(.int y4), (.int y3), (.int y2), (.long y1), (.ref 1262)], h) (fun C => ∃ v, xRet xEX12_vector C v ∧ (C.2.2.2 = r.2 ∧ v = some (.int r.1)) ∧ LY r.2) := by
  unfold b_m_vector_200 at hf
  rcases e46 : f_m_isThing y1 y2 y3 y4 h with _ | r45
  · rw [e46] at hf; cases hf
  rw [e46] at hf; dsimp only at hf
  refine r_callv rfl xvX12_isThing xm12_416 (kf_m_isThing (d := d) L0 e46) (LY.lt L0 (by decide)) (LY.k1262 L0) (by decide) rfl rfl (by omega) (by decide) (Nat.le_of_ble_eq_true rfl) ?_
  rintro _ _ ⟨⟨rfl, rfl⟩, L47⟩
  exact XR.forget (L2 := [some (.ref 1262), some (.int x1), some (.int x2), some (.int x3), none, some (.int x5), none, some (.int x7), none, none, none, none]) ⟨rfl, ⟨rfl, ⟨rfl, ⟨rfl, ⟨rfl, ⟨rfl, trivial⟩⟩⟩⟩⟩⟩ (kb_m_vector_203 hK136 L47 hf)
def s_m_vector_136 (K136 : Int32 → Int32 → Int32 → Int32 → Int32 → Int32 → XH → Option (Int32 × XH)) (x1 : Int32) (x2 : Int32) (x3 : Int32) (x5 : Int32) (x6 : Int32) (x7 : Int32) (h : XH) : Option (Int32 × XH) := (if x3 ≤ x7 then (b_m_vector_215 x1 x2 x3 x5 x6 h) else (if x6 = 0 then (b_m_vector_215 x1 x2 x3 x5 x6 h) else (if ¬ x1 = 0 then (if ¬ x1 = 2 then (if 0 ≤ x7 ∧ x7 < nI 600 then (if ¬ x1 = 3 then (b_m_vector_200 K136 x1 x2 x3 x5 x7 (hj h 1298 (Int32.toNatClampNeg x7)) x1 (-1) 0 h) else (b_m_vector_200 K136 x1 x2 x3 x5 x7 (hj h 1298 (Int32.toNatClampNeg x7)) x1 (-1) x2 h)) else none) else (match f_m_areOfStruct x2 x7 h with | none => none | some r54 => (b_m_vector_203 K136 x1 x2 x3 x5 x7 r54.1 r54.2))) else (if 0 ≤ x7 ∧ x7 < nI 600 then (match f_m_isValue x2 (hj h 1298 (Int32.toNatClampNeg x7)) h with | none => none | some r58 => (b_m_vector_203 K136 x1 x2 x3 x5 x7 r58.1 r58.2)) else none))))
set_option maxRecDepth 20000 in
theorem ks_m_vector_136 {l : Launch} {G : XG} {d : Nat} {K136 : Int32 → Int32 → Int32 → Int32 → Int32 → Int32 → XH → Option (Int32 × XH)} {x1 : Int32} {x2 : Int32} {x3 : Int32} {x5 : Int32} {x6 : Int32} {x7 : Int32} {h : XH} {r : Int32 × XH} (hK136 : ∀ (x1 : Int32) (x2 : Int32) (x3 : Int32) (x5 : Int32) (x6 : Int32) (x7 : Int32) (h : XH), LY h → K136 x1 x2 x3 x5 x6 x7 h = some r → XR l G xEX12_vector (d + 3) (136, [some (.ref 1262), some (.int x1), some (.int x2), some (.int x3), none, some (.int x5), some (.int x6), some (.int x7), none, none, none, none], [], h) (fun C => ∃ v, xRet xEX12_vector C v ∧ (C.2.2.2 = r.2 ∧ v = some (.int r.1)) ∧ LY r.2)) (L0 : LY h) (hf : s_m_vector_136 K136 x1 x2 x3 x5 x6 x7 h = some r) : XR l G xEX12_vector (d + 3) (136, [some (.ref 1262), some (.int x1), some (.int x2), some (.int x3), none, some (.int x5), some (.int x6), some (.int x7), none, none, none, none], [], h) (fun C => ∃ v, xRet xEX12_vector C v ∧ (C.2.2.2 = r.2 ∧ v = some (.int r.1)) ∧ LY r.2) := by
  unfold s_m_vector_136 at hf
  refine XS.go (s_iload rfl rfl) ?_
  refine XS.go (s_iloadn rfl rfl rfl) ?_
  refine r_icmp_ge (tgt := 215) rfl rfl (fun qc48 => ?_) (fun qc48 => ?_)
  · rw [if_pos qc48] at hf
    exact XR.forget (L2 := [some (.ref 1262), some (.int x1), some (.int x2), some (.int x3), none, some (.int x5), some (.int x6), none, none, none, none, none]) ⟨rfl, ⟨rfl, ⟨rfl, ⟨rfl, ⟨rfl, ⟨rfl, trivial⟩⟩⟩⟩⟩⟩ (kb_m_vector_215 L0 hf)
  · rw [if_neg qc48] at hf
    refine XS.go (s_iload rfl rfl) ?_
    refine r_if_eq (tgt := 215) rfl rfl (fun qc49 => ?_) (fun qc49 => ?_)
    · rw [if_pos qc49] at hf
      exact XR.forget (L2 := [some (.ref 1262), some (.int x1), some (.int x2), some (.int x3), none, some (.int x5), some (.int x6), none, none, none, none, none]) ⟨rfl, ⟨rfl, ⟨rfl, ⟨rfl, ⟨rfl, ⟨rfl, trivial⟩⟩⟩⟩⟩⟩ (kb_m_vector_215 L0 hf)
    · rw [if_neg qc49] at hf
      refine XS.go (s_iloadn rfl rfl rfl) ?_
      refine r_if_ne (tgt := 165) rfl rfl (fun qc50 => ?_) (fun qc50 => ?_)
      · rw [if_pos qc50] at hf
        refine XS.go (s_iloadn rfl rfl rfl) ?_
        refine XS.go (s_iconst (v := 2) rfl rfl) ?_
        refine r_icmp_ne (tgt := 180) rfl rfl (fun qc51 => ?_) (fun qc51 => ?_)
        · rw [if_pos qc51] at hf
          refine XS.go (s_aloadn rfl rfl rfl) ?_
          refine XS.go (s_aloadn rfl rfl rfl) ?_
          refine XS.go (s_getr rfl xf12_116 (LY.lt L0 (by decide)) (LY.k1262 L0) (by decide) rfl (LY.r1262_54 L0)) ?_
          refine XS.go (s_iload rfl rfl) ?_
          by_cases qk52 : 0 ≤ x7 ∧ x7 < nI 600
          rotate_left
          · rw [if_neg qk52] at hf; cases hf
          rw [if_pos qk52] at hf
          refine XS.go (s_lalde rfl (LY.lt L0 (by decide)) (LY.k1298 L0) (inLit (LY.n1298 L0) qk52.1 qk52.2 (by decide)) rfl) ?_
          refine XS.go (s_iloadn rfl rfl rfl) ?_
          refine XS.go (s_iconst (v := (-1)) rfl rfl) ?_
          refine XS.go (s_iloadn rfl rfl rfl) ?_
          refine XS.go (s_iconst (v := 3) rfl rfl) ?_
          refine r_icmp_ne (tgt := 199) rfl rfl (fun qc53 => ?_) (fun qc53 => ?_)
          · rw [if_pos qc53] at hf
            refine XS.go (s_iconst (v := 0) rfl rfl) ?_
            exact XR.forget (L2 := [some (.ref 1262), some (.int x1), some (.int x2), some (.int x3), none, some (.int x5), none, some (.int x7), none, none, none, none]) ⟨rfl, ⟨rfl, ⟨rfl, ⟨rfl, ⟨rfl, ⟨rfl, trivial⟩⟩⟩⟩⟩⟩ (kb_m_vector_200 hK136 L0 hf)
          · rw [if_neg qc53] at hf
            refine XS.go (s_iloadn rfl rfl rfl) ?_
            refine XS.go (s_goto (tgt := 200) rfl rfl) ?_
            exact XR.forget (L2 := [some (.ref 1262), some (.int x1), some (.int x2), some (.int x3), none, some (.int x5), none, some (.int x7), none, none, none, none]) ⟨rfl, ⟨rfl, ⟨rfl, ⟨rfl, ⟨rfl, ⟨rfl, trivial⟩⟩⟩⟩⟩⟩ (kb_m_vector_200 hK136 L0 hf)
        · rw [if_neg qc51] at hf
          refine XS.go (s_aloadn rfl rfl rfl) ?_
          refine XS.go (s_iloadn rfl rfl rfl) ?_
          refine XS.go (s_iload rfl rfl) ?_
          rcases e55 : f_m_areOfStruct x2 x7 h with _ | r54
          · rw [e55] at hf; cases hf
          rw [e55] at hf; dsimp only at hf
          refine r_callv rfl xvX12_areOfStruct xm12_413 (kf_m_areOfStruct (d := d) L0 e55) (LY.lt L0 (by decide)) (LY.k1262 L0) (by decide) rfl rfl (by omega) (by decide) (Nat.le_of_ble_eq_true rfl) ?_
          rintro _ _ ⟨⟨rfl, rfl⟩, L56⟩
          refine XS.go (s_goto (tgt := 203) rfl rfl) ?_
          exact XR.forget (L2 := [some (.ref 1262), some (.int x1), some (.int x2), some (.int x3), none, some (.int x5), none, some (.int x7), none, none, none, none]) ⟨rfl, ⟨rfl, ⟨rfl, ⟨rfl, ⟨rfl, ⟨rfl, trivial⟩⟩⟩⟩⟩⟩ (kb_m_vector_203 hK136 L56 hf)
      · rw [if_neg qc50] at hf
        refine XS.go (s_iloadn rfl rfl rfl) ?_
        refine XS.go (s_aloadn rfl rfl rfl) ?_
        refine XS.go (s_getr rfl xf12_116 (LY.lt L0 (by decide)) (LY.k1262 L0) (by decide) rfl (LY.r1262_54 L0)) ?_
        refine XS.go (s_iload rfl rfl) ?_
        by_cases qk57 : 0 ≤ x7 ∧ x7 < nI 600
        rotate_left
        · rw [if_neg qk57] at hf; cases hf
        rw [if_pos qk57] at hf
        refine XS.go (s_lalde rfl (LY.lt L0 (by decide)) (LY.k1298 L0) (inLit (LY.n1298 L0) qk57.1 qk57.2 (by decide)) rfl) ?_
        rcases e59 : f_m_isValue x2 (hj h 1298 (Int32.toNatClampNeg x7)) h with _ | r58
        · rw [e59] at hf; cases hf
        rw [e59] at hf; dsimp only at hf
        refine r_calls rfl xsX12_isValue xm12_334 (kf_m_isValue (d := d) L0 e59) rfl rfl (by omega) (by decide) (Nat.le_of_ble_eq_true rfl) ?_
        rintro _ _ ⟨⟨rfl, rfl⟩, L60⟩
        refine XS.go (s_goto (tgt := 203) rfl rfl) ?_
        exact XR.forget (L2 := [some (.ref 1262), some (.int x1), some (.int x2), some (.int x3), none, some (.int x5), none, some (.int x7), none, none, none, none]) ⟨rfl, ⟨rfl, ⟨rfl, ⟨rfl, ⟨rfl, ⟨rfl, trivial⟩⟩⟩⟩⟩⟩ (kb_m_vector_203 hK136 L60 hf)
def b_m_vector_136 : Nat → Int32 → Int32 → Int32 → Int32 → Int32 → Int32 → XH → Option (Int32 × XH)
  | 0, _, _, _, _, _, _, _ => none
  | n + 1, x1, x2, x3, x5, x6, x7, h => s_m_vector_136 (b_m_vector_136 n) x1 x2 x3 x5 x6 x7 h
theorem kb_m_vector_136 {l : Launch} {G : XG} {d : Nat} {n : Nat} {x1 : Int32} {x2 : Int32} {x3 : Int32} {x5 : Int32} {x6 : Int32} {x7 : Int32} {h : XH} {r : Int32 × XH} (L0 : LY h) (hf : b_m_vector_136 n x1 x2 x3 x5 x6 x7 h = some r) : XR l G xEX12_vector (d + 3) (136, [some (.ref 1262), some (.int x1), some (.int x2), some (.int x3), none, some (.int x5), some (.int x6), some (.int x7), none, none, none, none], [], h) (fun C => ∃ v, xRet xEX12_vector C v ∧ (C.2.2.2 = r.2 ∧ v = some (.int r.1)) ∧ LY r.2) := by
  induction n generalizing x1 x2 x3 x5 x6 x7 h with
  | zero => cases hf
  | succ n ih => exact ks_m_vector_136 (fun x1 x2 x3 x5 x6 x7 h L0 hf => ih (h := h) (x1 := x1) (x2 := x2) (x3 := x3) (x5 := x5) (x6 := x6) (x7 := x7) L0 hf) L0 hf
def b_m_vector_131 (x1 : Int32) (x2 : Int32) (x3 : Int32) (x5 : Int32) (y0 : Int32) (h : XH) : Option (Int32 × XH) := (b_m_vector_136 100000 x1 x2 x3 x5 y0 0 h)
set_option maxRecDepth 20000 in
theorem kb_m_vector_131 {l : Launch} {G : XG} {d : Nat} {x1 : Int32} {x2 : Int32} {x3 : Int32} {x5 : Int32} {y0 : Int32} {h : XH} {r : Int32 × XH} (L0 : LY h) (hf : b_m_vector_131 x1 x2 x3 x5 y0 h = some r) : XR l G xEX12_vector (d + 3) (131, [some (.ref 1262), some (.int x1), some (.int x2), some (.int x3), none, some (.int x5), none, none, none, none, none, none], [(.int y0)], h) (fun C => ∃ v, xRet xEX12_vector C v ∧ (C.2.2.2 = r.2 ∧ v = some (.int r.1)) ∧ LY r.2) := by
  unfold b_m_vector_131 at hf
  refine XS.go (s_istore rfl (Nat.le_of_ble_eq_true rfl)) ?_
  refine XS.go (s_iconst (v := 0) rfl rfl) ?_
  refine XS.go (s_istore rfl (Nat.le_of_ble_eq_true rfl)) ?_
  exact XR.forget (L2 := [some (.ref 1262), some (.int x1), some (.int x2), some (.int x3), none, some (.int x5), some (.int y0), some (.int 0), none, none, none, none]) ⟨rfl, ⟨rfl, ⟨rfl, ⟨rfl, ⟨rfl, ⟨rfl, ⟨rfl, trivial⟩⟩⟩⟩⟩⟩⟩ (kb_m_vector_136 L0 hf)
def b_m_vector_117 (x1 : Int32) (x2 : Int32) (x3 : Int32) (y0 : Int32) (h : XH) : Option (Int32 × XH) := (if ¬ y0 = 0 then (if ¬ (x3 - x3 / y0 * y0) = 0 then (b_m_vector_131 x1 x2 x3 y0 0 h) else (b_m_vector_131 x1 x2 x3 y0 1 h)) else none)
set_option maxRecDepth 20000 in
theorem kb_m_vector_117 {l : Launch} {G : XG} {d : Nat} {x1 : Int32} {x2 : Int32} {x3 : Int32} {y0 : Int32} {h : XH} {r : Int32 × XH} (L0 : LY h) (hf : b_m_vector_117 x1 x2 x3 y0 h = some r) : XR l G xEX12_vector (d + 3) (117, [some (.ref 1262), some (.int x1), some (.int x2), some (.int x3), none, none, none, none, none, none, none, none], [(.int y0)], h) (fun C => ∃ v, xRet xEX12_vector C v ∧ (C.2.2.2 = r.2 ∧ v = some (.int r.1)) ∧ LY r.2) := by
  unfold b_m_vector_117 at hf
  refine XS.go (s_istore rfl (Nat.le_of_ble_eq_true rfl)) ?_
  refine XS.go (s_iloadn rfl rfl rfl) ?_
  refine XS.go (s_iload rfl rfl) ?_
  by_cases qk61 : ¬ y0 = 0
  rotate_left
  · rw [if_neg qk61] at hf; cases hf
  rw [if_pos qk61] at hf
  refine XS.go (s_irem qk61 rfl) ?_
  refine r_if_ne (tgt := 130) rfl rfl (fun qc62 => ?_) (fun qc62 => ?_)
  · rw [if_pos qc62] at hf
    refine XS.go (s_iconst (v := 0) rfl rfl) ?_
    exact XR.forget (L2 := [some (.ref 1262), some (.int x1), some (.int x2), some (.int x3), none, some (.int y0), none, none, none, none, none, none]) ⟨rfl, ⟨rfl, ⟨rfl, ⟨rfl, ⟨rfl, trivial⟩⟩⟩⟩⟩ (kb_m_vector_131 L0 hf)
  · rw [if_neg qc62] at hf
    refine XS.go (s_iconst (v := 1) rfl rfl) ?_
    refine XS.go (s_goto (tgt := 131) rfl rfl) ?_
    exact XR.forget (L2 := [some (.ref 1262), some (.int x1), some (.int x2), some (.int x3), none, some (.int y0), none, none, none, none, none, none]) ⟨rfl, ⟨rfl, ⟨rfl, ⟨rfl, ⟨rfl, trivial⟩⟩⟩⟩⟩ (kb_m_vector_131 L0 hf)
def b_m_vector_88 (x1 : Int32) (x2 : Int32) (x3 : Int32) (y0 : Int32) (h : XH) : Option (Int32 × XH) := (if ¬ y0 = 0 then (if ¬ x1 = 2 then (b_m_vector_117 x1 x2 x3 1 h) else (if 0 ≤ x2 ∧ x2 < nI 12 then (b_m_vector_117 x1 x2 x3 (hi h 1280 (Int32.toNatClampNeg x2)) h) else none)) else (some (0, (hsi h 1262 0 2))))
set_option maxRecDepth 20000 in
theorem kb_m_vector_88 {l : Launch} {G : XG} {d : Nat} {x1 : Int32} {x2 : Int32} {x3 : Int32} {y0 : Int32} {h : XH} {r : Int32 × XH} (L0 : LY h) (hf : b_m_vector_88 x1 x2 x3 y0 h = some r) : XR l G xEX12_vector (d + 3) (88, [some (.ref 1262), some (.int x1), some (.int x2), some (.int x3), none, none, none, none, none, none, none, none], [(.int y0)], h) (fun C => ∃ v, xRet xEX12_vector C v ∧ (C.2.2.2 = r.2 ∧ v = some (.int r.1)) ∧ LY r.2) := by
  unfold b_m_vector_88 at hf
  refine XS.go (s_istore rfl (Nat.le_of_ble_eq_true rfl)) ?_
  refine XS.go (s_iload rfl rfl) ?_
  refine r_if_ne (tgt := 102) rfl rfl (fun qc63 => ?_) (fun qc63 => ?_)
  · rw [if_pos qc63] at hf
    refine XS.go (s_iloadn rfl rfl rfl) ?_
    refine XS.go (s_iconst (v := 2) rfl rfl) ?_
    refine r_icmp_ne (tgt := 116) rfl rfl (fun qc64 => ?_) (fun qc64 => ?_)
    · rw [if_pos qc64] at hf
      refine XS.go (s_iconst (v := 1) rfl rfl) ?_
      exact XR.forget (L2 := [some (.ref 1262), some (.int x1), some (.int x2), some (.int x3), none, none, none, none, none, none, none, none]) ⟨rfl, ⟨rfl, ⟨rfl, ⟨rfl, trivial⟩⟩⟩⟩ (kb_m_vector_117 L0 hf)
    · rw [if_neg qc64] at hf
      refine XS.go (s_aloadn rfl rfl rfl) ?_
      refine XS.go (s_getr rfl xf12_61 (LY.lt L0 (by decide)) (LY.k1262 L0) (by decide) rfl (LY.r1262_28 L0)) ?_
      refine XS.go (s_iloadn rfl rfl rfl) ?_
      by_cases qk65 : 0 ≤ x2 ∧ x2 < nI 12
      rotate_left
      · rw [if_neg qk65] at hf; cases hf
      rw [if_pos qk65] at hf
      refine XS.go (s_ialde rfl (LY.lt L0 (by decide)) (LY.k1280 L0) (inLit (LY.n1280 L0) qk65.1 qk65.2 (by decide)) rfl) ?_
      refine XS.go (s_goto (tgt := 117) rfl rfl) ?_
      exact XR.forget (L2 := [some (.ref 1262), some (.int x1), some (.int x2), some (.int x3), none, none, none, none, none, none, none, none]) ⟨rfl, ⟨rfl, ⟨rfl, ⟨rfl, trivial⟩⟩⟩⟩ (kb_m_vector_117 L0 hf)
  · rw [if_neg qc63] at hf
    refine XS.go (s_aloadn rfl rfl rfl) ?_
    refine XS.go (s_iconst (v := 2) rfl rfl) ?_
    refine XS.go (s_puti rfl xf12_175 (LY.lt L0 (by decide)) (LY.k1262 L0) (by decide) rfl (Or.inl rfl)) ?_
    refine XS.go (s_iconst (v := 0) rfl rfl) ?_
    cases hf
    exact XR.reti rfl rfl (fun hret => ⟨_, hret, ⟨rfl, rfl⟩, (by simp only [LY_si, LY_sj]; exact L0)⟩)
def b_m_vector_48 (x1 : Int32) (x2 : Int32) (x3 : Int32) (h : XH) : Option (Int32 × XH) := (b_m_vector_88 x1 x2 x3 0 h)
set_option maxRecDepth 20000 in
theorem kb_m_vector_48 {l : Launch} {G : XG} {d : Nat} {x1 : Int32} {x2 : Int32} {x3 : Int32} {h : XH} {r : Int32 × XH} (L0 : LY h) (hf : b_m_vector_48 x1 x2 x3 h = some r) : XR l G xEX12_vector (d + 3) (48, [some (.ref 1262), some (.int x1), some (.int x2), some (.int x3), none, none, none, none, none, none, none, none], [], h) (fun C => ∃ v, xRet xEX12_vector C v ∧ (C.2.2.2 = r.2 ∧ v = some (.int r.1)) ∧ LY r.2) := by
  unfold b_m_vector_48 at hf
  refine XS.go (s_iconst (v := 0) rfl rfl) ?_
  refine XS.go (s_goto (tgt := 88) rfl rfl) ?_
  exact XR.forget (L2 := [some (.ref 1262), some (.int x1), some (.int x2), some (.int x3), none, none, none, none, none, none, none, none]) ⟨rfl, ⟨rfl, ⟨rfl, ⟨rfl, trivial⟩⟩⟩⟩ (kb_m_vector_88 L0 hf)
def f_m_vector (a0 : Int32) (a1 : Int32) (h : XH) : Option (Int32 × XH) := (if (hi h 1262 67) = (-1) then (if ¬ a0 = 0 then (if ¬ a0 = 2 then (if ¬ a0 = 3 then (if ¬ a0 = 1 then (b_m_vector_88 a0 a1 (hi h 1262 55) 0 (hsi (hsi h 1262 0 0) 1262 55 0)) else (b_m_vector_88 a0 a1 (hi h 1262 55) 1 (hsi (hsi h 1262 0 0) 1262 55 0))) else (match f_m_isTable a1 (hsi (hsi h 1262 0 0) 1262 55 0) with | none => none | some r71 => (b_m_vector_88 a0 a1 (hi h 1262 55) r71.1 r71.2))) else (match f_m_isStruct a1 (hsi (hsi h 1262 0 0) 1262 55 0) with | none => none | some r74 => (b_m_vector_88 a0 a1 (hi h 1262 55) r74.1 r74.2))) else (if a1 < 0 then (b_m_vector_48 a0 a1 (hi h 1262 55) (hsi (hsi h 1262 0 0) 1262 55 0)) else (if 10 < a1 then (b_m_vector_48 a0 a1 (hi h 1262 55) (hsi (hsi h 1262 0 0) 1262 55 0)) else (b_m_vector_88 a0 a1 (hi h 1262 55) 1 (hsi (hsi h 1262 0 0) 1262 55 0))))) else (some (0, (hsi (hsi (hsi h 1262 0 0) 1262 55 0) 1262 0 1))))
set_option maxRecDepth 20000 in
theorem kf_m_vector {l : Launch} {G : XG} {d : Nat} {a0 : Int32} {a1 : Int32} {h : XH} {r : Int32 × XH} (L0 : LY h) (hf : f_m_vector a0 a1 h = some r) : XC l G xEX12_vector (d + 3) [.ref 1262, .int a0, .int a1] h (fun v h2 => (h2 = r.2 ∧ v = some (.int r.1)) ∧ LY r.2) := by
  refine XC.virt xvX12_vector (Nat.le_of_ble_eq_true rfl) ?_
  unfold f_m_vector at hf
  refine XS.go (s_aloadn rfl rfl rfl) ?_
  refine XS.go (s_iconst (v := 0) rfl rfl) ?_
  refine XS.go (s_puti rfl xf12_175 (LY.lt L0 (by decide)) (LY.k1262 L0) (by decide) rfl (Or.inl rfl)) ?_
  refine XS.go (s_aloadn rfl rfl rfl) ?_
  refine XS.go (s_getie rfl xf12_379 (LY.lt (by simp only [LY_si, LY_sj]; exact L0) (by decide)) (LY.k1262 (by simp only [LY_si, LY_sj]; exact L0)) (by decide) rfl (hi_hsi_nk (by decide))) ?_
  refine XS.go (s_istoren rfl rfl (Nat.le_of_ble_eq_true rfl)) ?_
  refine XS.go (s_aloadn rfl rfl rfl) ?_
  refine XS.go (s_iconst (v := 0) rfl rfl) ?_
  refine XS.go (s_puti rfl xf12_379 (LY.lt (by simp only [LY_si, LY_sj]; exact L0) (by decide)) (LY.k1262 (by simp only [LY_si, LY_sj]; exact L0)) (by decide) rfl (Or.inl rfl)) ?_
  refine XS.go (s_aloadn rfl rfl rfl) ?_
  refine XS.go (s_getie rfl xf12_140 (LY.lt (by simp only [LY_si, LY_sj]; exact L0) (by decide)) (LY.k1262 (by simp only [LY_si, LY_sj]; exact L0)) (by decide) rfl ((hi_hsi_nk (by decide)).trans (hi_hsi_nk (by decide)))) ?_
  refine XS.go (s_iconst (v := (-1)) rfl rfl) ?_
  refine r_icmp_eq (tgt := 30) rfl rfl (fun qc66 => ?_) (fun qc66 => ?_)
  · rw [if_pos qc66] at hf
    refine XS.go (s_iloadn rfl rfl rfl) ?_
    refine r_if_ne (tgt := 52) rfl rfl (fun qc67 => ?_) (fun qc67 => ?_)
    · rw [if_pos qc67] at hf
      refine XS.go (s_iloadn rfl rfl rfl) ?_
      refine XS.go (s_iconst (v := 2) rfl rfl) ?_
      refine r_icmp_ne (tgt := 65) rfl rfl (fun qc68 => ?_) (fun qc68 => ?_)
      · rw [if_pos qc68] at hf
        refine XS.go (s_iloadn rfl rfl rfl) ?_
        refine XS.go (s_iconst (v := 3) rfl rfl) ?_
        refine r_icmp_ne (tgt := 78) rfl rfl (fun qc69 => ?_) (fun qc69 => ?_)
        · rw [if_pos qc69] at hf
          refine XS.go (s_iloadn rfl rfl rfl) ?_
          refine XS.go (s_iconst (v := 1) rfl rfl) ?_
          refine r_icmp_ne (tgt := 87) rfl rfl (fun qc70 => ?_) (fun qc70 => ?_)
          · rw [if_pos qc70] at hf
            refine XS.go (s_iconst (v := 0) rfl rfl) ?_
            exact XR.forget (L2 := [some (.ref 1262), some (.int a0), some (.int a1), some (.int (hi h 1262 55)), none, none, none, none, none, none, none, none]) ⟨rfl, ⟨rfl, ⟨rfl, ⟨rfl, trivial⟩⟩⟩⟩ (kb_m_vector_88 (by simp only [LY_si, LY_sj]; exact L0) hf)
          · rw [if_neg qc70] at hf
            refine XS.go (s_iconst (v := 1) rfl rfl) ?_
            refine XS.go (s_goto (tgt := 88) rfl rfl) ?_
            exact XR.forget (L2 := [some (.ref 1262), some (.int a0), some (.int a1), some (.int (hi h 1262 55)), none, none, none, none, none, none, none, none]) ⟨rfl, ⟨rfl, ⟨rfl, ⟨rfl, trivial⟩⟩⟩⟩ (kb_m_vector_88 (by simp only [LY_si, LY_sj]; exact L0) hf)
        · rw [if_neg qc69] at hf
          refine XS.go (s_aloadn rfl rfl rfl) ?_
          refine XS.go (s_iloadn rfl rfl rfl) ?_
          rcases e72 : f_m_isTable a1 (hsi (hsi h 1262 0 0) 1262 55 0) with _ | r71
          · rw [e72] at hf; cases hf
          rw [e72] at hf; dsimp only at hf
          refine r_callv rfl xvX12_isTable xm12_372 (kf_m_isTable (d := d) (by simp only [LY_si, LY_sj]; exact L0) e72) (LY.lt (by simp only [LY_si, LY_sj]; exact L0) (by decide)) (LY.k1262 (by simp only [LY_si, LY_sj]; exact L0)) (by decide) rfl rfl (by omega) (by decide) (Nat.le_of_ble_eq_true rfl) ?_
          rintro _ _ ⟨⟨rfl, rfl⟩, L73⟩
          refine XS.go (s_goto (tgt := 88) rfl rfl) ?_
          exact XR.forget (L2 := [some (.ref 1262), some (.int a0), some (.int a1), some (.int (hi h 1262 55)), none, none, none, none, none, none, none, none]) ⟨rfl, ⟨rfl, ⟨rfl, ⟨rfl, trivial⟩⟩⟩⟩ (kb_m_vector_88 L73 hf)
      · rw [if_neg qc68] at hf
        refine XS.go (s_aloadn rfl rfl rfl) ?_
        refine XS.go (s_iloadn rfl rfl rfl) ?_
        rcases e75 : f_m_isStruct a1 (hsi (hsi h 1262 0 0) 1262 55 0) with _ | r74
        · rw [e75] at hf; cases hf
        rw [e75] at hf; dsimp only at hf
        refine r_callv rfl xvX12_isStruct xm12_369 (kf_m_isStruct (d := d) (by simp only [LY_si, LY_sj]; exact L0) e75) (LY.lt (by simp only [LY_si, LY_sj]; exact L0) (by decide)) (LY.k1262 (by simp only [LY_si, LY_sj]; exact L0)) (by decide) rfl rfl (by omega) (by decide) (Nat.le_of_ble_eq_true rfl) ?_
        rintro _ _ ⟨⟨rfl, rfl⟩, L76⟩
        refine XS.go (s_goto (tgt := 88) rfl rfl) ?_
        exact XR.forget (L2 := [some (.ref 1262), some (.int a0), some (.int a1), some (.int (hi h 1262 55)), none, none, none, none, none, none, none, none]) ⟨rfl, ⟨rfl, ⟨rfl, ⟨rfl, trivial⟩⟩⟩⟩ (kb_m_vector_88 L76 hf)
    · rw [if_neg qc67] at hf
      refine XS.go (s_iloadn rfl rfl rfl) ?_
      refine r_if_lt (tgt := 48) rfl rfl (fun qc77 => ?_) (fun qc77 => ?_)
      · rw [if_pos qc77] at hf
        exact XR.forget (L2 := [some (.ref 1262), some (.int a0), some (.int a1), some (.int (hi h 1262 55)), none, none, none, none, none, none, none, none]) ⟨rfl, ⟨rfl, ⟨rfl, ⟨rfl, trivial⟩⟩⟩⟩ (kb_m_vector_48 (by simp only [LY_si, LY_sj]; exact L0) hf)
      · rw [if_neg qc77] at hf
        refine XS.go (s_iloadn rfl rfl rfl) ?_
        refine XS.go (s_bipush (v := 10) rfl rfl) ?_
        refine r_icmp_gt (tgt := 48) rfl rfl (fun qc78 => ?_) (fun qc78 => ?_)
        · rw [if_pos qc78] at hf
          exact XR.forget (L2 := [some (.ref 1262), some (.int a0), some (.int a1), some (.int (hi h 1262 55)), none, none, none, none, none, none, none, none]) ⟨rfl, ⟨rfl, ⟨rfl, ⟨rfl, trivial⟩⟩⟩⟩ (kb_m_vector_48 (by simp only [LY_si, LY_sj]; exact L0) hf)
        · rw [if_neg qc78] at hf
          refine XS.go (s_iconst (v := 1) rfl rfl) ?_
          refine XS.go (s_goto (tgt := 88) rfl rfl) ?_
          exact XR.forget (L2 := [some (.ref 1262), some (.int a0), some (.int a1), some (.int (hi h 1262 55)), none, none, none, none, none, none, none, none]) ⟨rfl, ⟨rfl, ⟨rfl, ⟨rfl, trivial⟩⟩⟩⟩ (kb_m_vector_88 (by simp only [LY_si, LY_sj]; exact L0) hf)
  · rw [if_neg qc66] at hf
    refine XS.go (s_aloadn rfl rfl rfl) ?_
    refine XS.go (s_iconst (v := 1) rfl rfl) ?_
    refine XS.go (s_puti rfl xf12_175 (LY.lt (by simp only [LY_si, LY_sj]; exact L0) (by decide)) (LY.k1262 (by simp only [LY_si, LY_sj]; exact L0)) (by decide) rfl (Or.inl rfl)) ?_
    refine XS.go (s_iconst (v := 0) rfl rfl) ?_
    cases hf
    exact XR.reti rfl rfl (fun hret => ⟨_, hret, ⟨rfl, rfl⟩, (by simp only [LY_si, LY_sj]; exact L0)⟩)
def s_m_begin_73 (K73 : Int32 → XH → Option (Unit × XH)) (x2 : Int32) (h : XH) : Option (Unit × XH) := (if 32 ≤ x2 then (some ((), h)) else (if 0 ≤ x2 ∧ x2 < nI 32 then (K73 (x2 + 1) (hsi h 1307 (Int32.toNatClampNeg x2) 0)) else none))
set_option maxRecDepth 20000 in
theorem ks_m_begin_73 {l : Launch} {G : XG} {d : Nat} {K73 : Int32 → XH → Option (Unit × XH)} {x2 : Int32} {h : XH} {r : Unit × XH} (hK73 : ∀ (x2 : Int32) (h : XH), LY h → K73 x2 h = some r → XR l G xEX12_begin (d + 1) (73, [some (.ref 1262), none, some (.int x2)], [], h) (fun C => ∃ v, xRet xEX12_begin C v ∧ (C.2.2.2 = r.2 ∧ v = none) ∧ LY r.2)) (L0 : LY h) (hf : s_m_begin_73 K73 x2 h = some r) : XR l G xEX12_begin (d + 1) (73, [some (.ref 1262), none, some (.int x2)], [], h) (fun C => ∃ v, xRet xEX12_begin C v ∧ (C.2.2.2 = r.2 ∧ v = none) ∧ LY r.2) := by
  unfold s_m_begin_73 at hf
  refine XS.go (s_iloadn rfl rfl rfl) ?_
  refine XS.go (s_bipush (v := 32) rfl rfl) ?_
  refine r_icmp_ge (tgt := 92) rfl rfl (fun qc1 => ?_) (fun qc1 => ?_)
  · rw [if_pos qc1] at hf
    cases hf
    exact XR.retv rfl rfl (fun hret => ⟨_, hret, ⟨rfl, rfl⟩, L0⟩)
  · rw [if_neg qc1] at hf
    refine XS.go (s_aloadn rfl rfl rfl) ?_
    refine XS.go (s_getr rfl xf12_148 (LY.lt L0 (by decide)) (LY.k1262 L0) (by decide) rfl (LY.r1262_70 L0)) ?_
    refine XS.go (s_iloadn rfl rfl rfl) ?_
    refine XS.go (s_iconst (v := 0) rfl rfl) ?_
    by_cases qk2 : 0 ≤ x2 ∧ x2 < nI 32
    rotate_left
    · rw [if_neg qk2] at hf; cases hf
    rw [if_pos qk2] at hf
    refine XS.go (s_iast rfl (LY.lt L0 (by decide)) (LY.k1307 L0) (inLit (LY.n1307 L0) qk2.1 qk2.2 (by decide))) ?_
    refine XS.go (s_inc rfl rfl (Nat.le_of_ble_eq_true rfl)) ?_
    refine XS.go (s_goto (tgt := 73) rfl rfl) ?_
    exact XR.forget (L2 := [some (.ref 1262), none, some (.int (x2 + 1))]) ⟨rfl, ⟨rfl, trivial⟩⟩ (hK73 (x2 + 1) _ (by simp only [LY_si, LY_sj]; exact L0) hf)
def b_m_begin_73 : Nat → Int32 → XH → Option (Unit × XH)
  | 0, _, _ => none
  | n + 1, x2, h => s_m_begin_73 (b_m_begin_73 n) x2 h
theorem kb_m_begin_73 {l : Launch} {G : XG} {d : Nat} {n : Nat} {x2 : Int32} {h : XH} {r : Unit × XH} (L0 : LY h) (hf : b_m_begin_73 n x2 h = some r) : XR l G xEX12_begin (d + 1) (73, [some (.ref 1262), none, some (.int x2)], [], h) (fun C => ∃ v, xRet xEX12_begin C v ∧ (C.2.2.2 = r.2 ∧ v = none) ∧ LY r.2) := by
  induction n generalizing x2 h with
  | zero => cases hf
  | succ n ih => exact ks_m_begin_73 (fun x2 h L0 hf => ih (h := h) (x2 := x2) L0 hf) L0 hf
def s_m_begin_52 (K52 : Int32 → XH → Option (Unit × XH)) (x2 : Int32) (h : XH) : Option (Unit × XH) := (if 16 ≤ x2 then (b_m_begin_73 100000 0 h) else (if 0 ≤ x2 ∧ x2 < nI 16 then (K52 (x2 + 1) (hsi h 1306 (Int32.toNatClampNeg x2) (vp_nar .boolean 0))) else none))
set_option maxRecDepth 20000 in
theorem ks_m_begin_52 {l : Launch} {G : XG} {d : Nat} {K52 : Int32 → XH → Option (Unit × XH)} {x2 : Int32} {h : XH} {r : Unit × XH} (hK52 : ∀ (x2 : Int32) (h : XH), LY h → K52 x2 h = some r → XR l G xEX12_begin (d + 1) (52, [some (.ref 1262), none, some (.int x2)], [], h) (fun C => ∃ v, xRet xEX12_begin C v ∧ (C.2.2.2 = r.2 ∧ v = none) ∧ LY r.2)) (L0 : LY h) (hf : s_m_begin_52 K52 x2 h = some r) : XR l G xEX12_begin (d + 1) (52, [some (.ref 1262), none, some (.int x2)], [], h) (fun C => ∃ v, xRet xEX12_begin C v ∧ (C.2.2.2 = r.2 ∧ v = none) ∧ LY r.2) := by
  unfold s_m_begin_52 at hf
  refine XS.go (s_iloadn rfl rfl rfl) ?_
  refine XS.go (s_bipush (v := 16) rfl rfl) ?_
  refine r_icmp_ge (tgt := 71) rfl rfl (fun qc3 => ?_) (fun qc3 => ?_)
  · rw [if_pos qc3] at hf
    refine XS.go (s_iconst (v := 0) rfl rfl) ?_
    refine XS.go (s_istoren rfl rfl (Nat.le_of_ble_eq_true rfl)) ?_
    exact XR.forget (L2 := [some (.ref 1262), none, some (.int 0)]) ⟨rfl, ⟨rfl, trivial⟩⟩ (kb_m_begin_73 L0 hf)
  · rw [if_neg qc3] at hf
    refine XS.go (s_aloadn rfl rfl rfl) ?_
    refine XS.go (s_getr rfl xf12_144 (LY.lt L0 (by decide)) (LY.k1262 L0) (by decide) rfl (LY.r1262_69 L0)) ?_
    refine XS.go (s_iloadn rfl rfl rfl) ?_
    refine XS.go (s_iconst (v := 0) rfl rfl) ?_
    by_cases qk4 : 0 ≤ x2 ∧ x2 < nI 16
    rotate_left
    · rw [if_neg qk4] at hf; cases hf
    rw [if_pos qk4] at hf
    refine XS.go (s_zast rfl (LY.lt L0 (by decide)) (LY.k1306 L0) (inLit (LY.n1306 L0) qk4.1 qk4.2 (by decide))) ?_
    refine XS.go (s_inc rfl rfl (Nat.le_of_ble_eq_true rfl)) ?_
    refine XS.go (s_goto (tgt := 52) rfl rfl) ?_
    exact XR.forget (L2 := [some (.ref 1262), none, some (.int (x2 + 1))]) ⟨rfl, ⟨rfl, trivial⟩⟩ (hK52 (x2 + 1) _ (by simp only [LY_si, LY_sj]; exact L0) hf)
def b_m_begin_52 : Nat → Int32 → XH → Option (Unit × XH)
  | 0, _, _ => none
  | n + 1, x2, h => s_m_begin_52 (b_m_begin_52 n) x2 h
theorem kb_m_begin_52 {l : Launch} {G : XG} {d : Nat} {n : Nat} {x2 : Int32} {h : XH} {r : Unit × XH} (L0 : LY h) (hf : b_m_begin_52 n x2 h = some r) : XR l G xEX12_begin (d + 1) (52, [some (.ref 1262), none, some (.int x2)], [], h) (fun C => ∃ v, xRet xEX12_begin C v ∧ (C.2.2.2 = r.2 ∧ v = none) ∧ LY r.2) := by
  induction n generalizing x2 h with
  | zero => cases hf
  | succ n ih => exact ks_m_begin_52 (fun x2 h L0 hf => ih (h := h) (x2 := x2) L0 hf) L0 hf
def f_m_begin (a0 : Int32) (h : XH) : Option (Unit × XH) := (if (hi h 1262 67) = (-1) then (match f_m_isTable a0 (hsi h 1262 0 0) with | none => none | some r6 => (if ¬ r6.1 = 0 then (b_m_begin_52 100000 0 (hsi (hsi r6.2 1262 67 a0) 1262 68 (hi r6.2 1262 57))) else (some ((), (hsi r6.2 1262 0 2))))) else (some ((), (hsi (hsi h 1262 0 0) 1262 0 1))))
set_option maxRecDepth 20000 in
theorem kf_m_begin {l : Launch} {G : XG} {d : Nat} {a0 : Int32} {h : XH} {r : Unit × XH} (L0 : LY h) (hf : f_m_begin a0 h = some r) : XC l G xEX12_begin (d + 1) [.ref 1262, .int a0] h (fun v h2 => (h2 = r.2 ∧ v = none) ∧ LY r.2) := by
  refine XC.virt xvX12_begin (Nat.le_of_ble_eq_true rfl) ?_
  unfold f_m_begin at hf
  refine XS.go (s_aloadn rfl rfl rfl) ?_
  refine XS.go (s_iconst (v := 0) rfl rfl) ?_
  refine XS.go (s_puti rfl xf12_175 (LY.lt L0 (by decide)) (LY.k1262 L0) (by decide) rfl (Or.inl rfl)) ?_
  refine XS.go (s_aloadn rfl rfl rfl) ?_
  refine XS.go (s_getie rfl xf12_140 (LY.lt (by simp only [LY_si, LY_sj]; exact L0) (by decide)) (LY.k1262 (by simp only [LY_si, LY_sj]; exact L0)) (by decide) rfl (hi_hsi_nk (by decide))) ?_
  refine XS.go (s_iconst (v := (-1)) rfl rfl) ?_
  refine r_icmp_eq (tgt := 21) rfl rfl (fun qc5 => ?_) (fun qc5 => ?_)
  · rw [if_pos qc5] at hf
    refine XS.go (s_aloadn rfl rfl rfl) ?_
    refine XS.go (s_iloadn rfl rfl rfl) ?_
    rcases e7 : f_m_isTable a0 (hsi h 1262 0 0) with _ | r6
    · rw [e7] at hf; cases hf
    rw [e7] at hf; dsimp only at hf
    refine r_callv rfl xvX12_isTable xm12_372 (kf_m_isTable (d := d) (by simp only [LY_si, LY_sj]; exact L0) e7) (LY.lt (by simp only [LY_si, LY_sj]; exact L0) (by decide)) (LY.k1262 (by simp only [LY_si, LY_sj]; exact L0)) (by decide) rfl rfl (by omega) (by decide) (Nat.le_of_ble_eq_true rfl) ?_
    rintro _ _ ⟨⟨rfl, rfl⟩, L8⟩
    refine r_if_ne (tgt := 37) rfl rfl (fun qc9 => ?_) (fun qc9 => ?_)
    · rw [if_pos qc9] at hf
      refine XS.go (s_aloadn rfl rfl rfl) ?_
      refine XS.go (s_iloadn rfl rfl rfl) ?_
      refine XS.go (s_puti rfl xf12_140 (LY.lt L8 (by decide)) (LY.k1262 L8) (by decide) rfl (Or.inl rfl)) ?_
      refine XS.go (s_aloadn rfl rfl rfl) ?_
      refine XS.go (s_aloadn rfl rfl rfl) ?_
      refine XS.go (s_getie rfl xf12_382 (LY.lt (by simp only [LY_si, LY_sj]; exact L8) (by decide)) (LY.k1262 (by simp only [LY_si, LY_sj]; exact L8)) (by decide) rfl (hi_hsi_nk (by decide))) ?_
      refine XS.go (s_puti rfl xf12_426 (LY.lt (by simp only [LY_si, LY_sj]; exact L8) (by decide)) (LY.k1262 (by simp only [LY_si, LY_sj]; exact L8)) (by decide) rfl (Or.inl rfl)) ?_
      refine XS.go (s_iconst (v := 0) rfl rfl) ?_
      refine XS.go (s_istoren rfl rfl (Nat.le_of_ble_eq_true rfl)) ?_
      exact XR.forget (L2 := [some (.ref 1262), none, some (.int 0)]) ⟨rfl, ⟨rfl, trivial⟩⟩ (kb_m_begin_52 (by simp only [LY_si, LY_sj]; exact L8) hf)
    · rw [if_neg qc9] at hf
      refine XS.go (s_aloadn rfl rfl rfl) ?_
      refine XS.go (s_iconst (v := 2) rfl rfl) ?_
      refine XS.go (s_puti rfl xf12_175 (LY.lt L8 (by decide)) (LY.k1262 L8) (by decide) rfl (Or.inl rfl)) ?_
      refine XS.go (s_goto (tgt := 92) rfl rfl) ?_
      cases hf
      exact XR.retv rfl rfl (fun hret => ⟨_, hret, ⟨rfl, rfl⟩, (by simp only [LY_si, LY_sj]; exact L8)⟩)
  · rw [if_neg qc5] at hf
    refine XS.go (s_aloadn rfl rfl rfl) ?_
    refine XS.go (s_iconst (v := 1) rfl rfl) ?_
    refine XS.go (s_puti rfl xf12_175 (LY.lt (by simp only [LY_si, LY_sj]; exact L0) (by decide)) (LY.k1262 (by simp only [LY_si, LY_sj]; exact L0)) (by decide) rfl (Or.inl rfl)) ?_
    refine XS.go (s_goto (tgt := 92) rfl rfl) ?_
    cases hf
    exact XR.retv rfl rfl (fun hret => ⟨_, hret, ⟨rfl, rfl⟩, (by simp only [LY_si, LY_sj]; exact L0)⟩)
def b_m_fits_128 (x1 : Int32) (y0 : Int32) (h : XH) : Option (Int32 × XH) := (if y0 = 0 then (some (0, h)) else (if 0 ≤ x1 ∧ x1 < nI 256 then (if 0 ≤ (((8 * (hi h 1287 (Int32.toNatClampNeg x1))) + (Int64.toInt32 (hj h 1298 (Int32.toNatClampNeg 0)))) - 1) ∧ (((8 * (hi h 1287 (Int32.toNatClampNeg x1))) + (Int64.toInt32 (hj h 1298 (Int32.toNatClampNeg 0)))) - 1) < nI 64 then (match f_m_isThing (hj h 1298 (Int32.toNatClampNeg 1)) 3 (-1) (hi h 1294 (Int32.toNatClampNeg (((8 * (hi h 1287 (Int32.toNatClampNeg x1))) + (Int64.toInt32 (hj h 1298 (Int32.toNatClampNeg 0)))) - 1))) h with | none => none | some r4 => (if r4.1 = 0 then (some (0, r4.2)) else (some (1, r4.2)))) else none) else none))
set_option maxRecDepth 20000 in
theorem kb_m_fits_128 {l : Launch} {G : XG} {d : Nat} {x1 : Int32} {y0 : Int32} {h : XH} {r : Int32 × XH} (L0 : LY h) (hf : b_m_fits_128 x1 y0 h = some r) : XR l G xEX12_fits (d + 3) (128, [some (.ref 1262), some (.int x1), none, none, none], [(.int y0)], h) (fun C => ∃ v, xRet xEX12_fits C v ∧ (C.2.2.2 = r.2 ∧ v = some (.int r.1)) ∧ LY r.2) := by
  unfold b_m_fits_128 at hf
  refine XS.go (s_istore rfl (Nat.le_of_ble_eq_true rfl)) ?_
  refine XS.go (s_iload rfl rfl) ?_
  refine r_if_eq (tgt := 178) rfl rfl (fun qc1 => ?_) (fun qc1 => ?_)
  · rw [if_pos qc1] at hf
    refine XS.go (s_iconst (v := 0) rfl rfl) ?_
    cases hf
    exact XR.retz rfl rfl (by decide) (fun hret => ⟨_, hret, ⟨rfl, rfl⟩, L0⟩)
  · rw [if_neg qc1] at hf
    refine XS.go (s_aloadn rfl rfl rfl) ?_
    refine XS.go (s_aloadn rfl rfl rfl) ?_
    refine XS.go (s_getr rfl xf12_116 (LY.lt L0 (by decide)) (LY.k1262 L0) (by decide) rfl (LY.r1262_54 L0)) ?_
    refine XS.go (s_iconst (v := 1) rfl rfl) ?_
    refine XS.go (s_lalde rfl (LY.lt L0 (by decide)) (LY.k1298 L0) (inN (k := 1) (LY.n1298 L0) rfl (by decide) (by decide)) rfl) ?_
    refine XS.go (s_iconst (v := 3) rfl rfl) ?_
    refine XS.go (s_iconst (v := (-1)) rfl rfl) ?_
    refine XS.go (s_aloadn rfl rfl rfl) ?_
    refine XS.go (s_getr rfl xf12_104 (LY.lt L0 (by decide)) (LY.k1262 L0) (by decide) rfl (LY.r1262_44 L0)) ?_
    refine XS.go (s_bipush (v := 8) rfl rfl) ?_
    refine XS.go (s_aloadn rfl rfl rfl) ?_
    refine XS.go (s_getr rfl xf12_82 (LY.lt L0 (by decide)) (LY.k1262 L0) (by decide) rfl (LY.r1262_36 L0)) ?_
    refine XS.go (s_iloadn rfl rfl rfl) ?_
    by_cases qk2 : 0 ≤ x1 ∧ x1 < nI 256
    rotate_left
    · rw [if_neg qk2] at hf; cases hf
    rw [if_pos qk2] at hf
    refine XS.go (s_ialde rfl (LY.lt L0 (by decide)) (LY.k1287 L0) (inLit (LY.n1287 L0) qk2.1 qk2.2 (by decide)) rfl) ?_
    refine XS.go (s_imul rfl) ?_
    refine XS.go (s_aloadn rfl rfl rfl) ?_
    refine XS.go (s_getr rfl xf12_116 (LY.lt L0 (by decide)) (LY.k1262 L0) (by decide) rfl (LY.r1262_54 L0)) ?_
    refine XS.go (s_iconst (v := 0) rfl rfl) ?_
    refine XS.go (s_lalde rfl (LY.lt L0 (by decide)) (LY.k1298 L0) (inN (k := 0) (LY.n1298 L0) rfl (by decide) (by decide)) rfl) ?_
    refine XS.go (s_l2i rfl) ?_
    refine XS.go (s_iadd rfl) ?_
    refine XS.go (s_iconst (v := 1) rfl rfl) ?_
    refine XS.go (s_isub rfl) ?_
    by_cases qk3 : 0 ≤ (((8 * (hi h 1287 (Int32.toNatClampNeg x1))) + (Int64.toInt32 (hj h 1298 (Int32.toNatClampNeg 0)))) - 1) ∧ (((8 * (hi h 1287 (Int32.toNatClampNeg x1))) + (Int64.toInt32 (hj h 1298 (Int32.toNatClampNeg 0)))) - 1) < nI 64
    rotate_left
    · rw [if_neg qk3] at hf; cases hf
    rw [if_pos qk3] at hf
    refine XS.go (s_ialde rfl (LY.lt L0 (by decide)) (LY.k1294 L0) (inLit (LY.n1294 L0) qk3.1 qk3.2 (by decide)) rfl) ?_
    rcases e5 : f_m_isThing (hj h 1298 (Int32.toNatClampNeg 1)) 3 (-1) (hi h 1294 (Int32.toNatClampNeg (((8 * (hi h 1287 (Int32.toNatClampNeg x1))) + (Int64.toInt32 (hj h 1298 (Int32.toNatClampNeg 0)))) - 1))) h with _ | r4
    · rw [e5] at hf; cases hf
    rw [e5] at hf; dsimp only at hf
    refine r_callv rfl xvX12_isThing xm12_416 (kf_m_isThing (d := d) L0 e5) (LY.lt L0 (by decide)) (LY.k1262 L0) (by decide) rfl rfl (by omega) (by decide) (Nat.le_of_ble_eq_true rfl) ?_
    rintro _ _ ⟨⟨rfl, rfl⟩, L6⟩
    refine r_if_eq (tgt := 178) rfl rfl (fun qc7 => ?_) (fun qc7 => ?_)
    · rw [if_pos qc7] at hf
      refine XS.go (s_iconst (v := 0) rfl rfl) ?_
      cases hf
      exact XR.retz rfl rfl (by decide) (fun hret => ⟨_, hret, ⟨rfl, rfl⟩, L6⟩)
    · rw [if_neg qc7] at hf
      refine XS.go (s_iconst (v := 1) rfl rfl) ?_
      refine XS.go (s_goto (tgt := 179) rfl rfl) ?_
      cases hf
      exact XR.retz rfl rfl (by decide) (fun hret => ⟨_, hret, ⟨rfl, rfl⟩, L6⟩)
def b_m_fits_127 (x1 : Int32) (h : XH) : Option (Int32 × XH) := (b_m_fits_128 x1 0 h)
set_option maxRecDepth 20000 in
theorem kb_m_fits_127 {l : Launch} {G : XG} {d : Nat} {x1 : Int32} {h : XH} {r : Int32 × XH} (L0 : LY h) (hf : b_m_fits_127 x1 h = some r) : XR l G xEX12_fits (d + 3) (127, [some (.ref 1262), some (.int x1), none, none, none], [], h) (fun C => ∃ v, xRet xEX12_fits C v ∧ (C.2.2.2 = r.2 ∧ v = some (.int r.1)) ∧ LY r.2) := by
  unfold b_m_fits_127 at hf
  refine XS.go (s_iconst (v := 0) rfl rfl) ?_
  exact XR.forget (L2 := [some (.ref 1262), some (.int x1), none, none, none]) ⟨rfl, ⟨rfl, trivial⟩⟩ (kb_m_fits_128 L0 hf)
def f_m_fits (a0 : Int32) (a1 : Int32) (h : XH) : Option (Int32 × XH) := (if 0 ≤ a0 ∧ a0 < nI 256 then (if ¬ (hi h 1286 (Int32.toNatClampNeg a0)) = 0 then (if ¬ (hi h 1286 (Int32.toNatClampNeg a0)) = 2 then (if ¬ (hi h 1286 (Int32.toNatClampNeg a0)) = 4 then (if ¬ a1 = 1 then (some (0, h)) else (match f_m_isThing (hj h 1298 (Int32.toNatClampNeg 0)) (hi h 1286 (Int32.toNatClampNeg a0)) (hi h 1288 (Int32.toNatClampNeg a0)) (hi h 1287 (Int32.toNatClampNeg a0)) h with | none => none | some r13 => (if r13.1 = 0 then (some (0, r13.2)) else (some (1, r13.2))))) else (if ¬ a1 = 2 then (b_m_fits_127 a0 h) else (if (lg_cmp (hj h 1298 (Int32.toNatClampNeg 0)) 1) < 0 then (b_m_fits_127 a0 h) else (if 0 ≤ (hi h 1287 (Int32.toNatClampNeg a0)) ∧ (hi h 1287 (Int32.toNatClampNeg a0)) < nI 8 then (if 0 < (lg_cmp (hj h 1298 (Int32.toNatClampNeg 0)) (Int32.toInt64 (hi h 1292 (Int32.toNatClampNeg (hi h 1287 (Int32.toNatClampNeg a0)))))) then (b_m_fits_127 a0 h) else (b_m_fits_128 a0 1 h)) else none)))) else (if 0 ≤ (hi h 1287 (Int32.toNatClampNeg a0)) ∧ (hi h 1287 (Int32.toNatClampNeg a0)) < nI 12 then (if ¬ a1 = (hi h 1280 (Int32.toNatClampNeg (hi h 1287 (Int32.toNatClampNeg a0)))) then (some (0, h)) else (match f_m_areOfStruct (hi h 1287 (Int32.toNatClampNeg a0)) 0 h with | none => none | some r23 => (if r23.1 = 0 then (some (0, r23.2)) else (some (1, r23.2))))) else none)) else (if ¬ a1 = 1 then (some (0, h)) else (match f_m_isValue (hi h 1287 (Int32.toNatClampNeg a0)) (hj h 1298 (Int32.toNatClampNeg 0)) h with | none => none | some r28 => (if r28.1 = 0 then (some (0, r28.2)) else (some (1, r28.2)))))) else none)
set_option maxRecDepth 20000 in
theorem kf_m_fits {l : Launch} {G : XG} {d : Nat} {a0 : Int32} {a1 : Int32} {h : XH} {r : Int32 × XH} (L0 : LY h) (hf : f_m_fits a0 a1 h = some r) : XC l G xEX12_fits (d + 3) [.ref 1262, .int a0, .int a1] h (fun v h2 => (h2 = r.2 ∧ v = some (.int r.1)) ∧ LY r.2) := by
  refine XC.virt xvX12_fits (Nat.le_of_ble_eq_true rfl) ?_
  unfold f_m_fits at hf
  refine XS.go (s_aloadn rfl rfl rfl) ?_
  refine XS.go (s_getr rfl xf12_79 (LY.lt L0 (by decide)) (LY.k1262 L0) (by decide) rfl (LY.r1262_35 L0)) ?_
  refine XS.go (s_iloadn rfl rfl rfl) ?_
  by_cases qk8 : 0 ≤ a0 ∧ a0 < nI 256
  rotate_left
  · rw [if_neg qk8] at hf; cases hf
  rw [if_pos qk8] at hf
  refine XS.go (s_ialde rfl (LY.lt L0 (by decide)) (LY.k1286 L0) (inLit (LY.n1286 L0) qk8.1 qk8.2 (by decide)) rfl) ?_
  refine XS.go (s_istoren rfl rfl (Nat.le_of_ble_eq_true rfl)) ?_
  refine XS.go (s_iloadn rfl rfl rfl) ?_
  refine r_if_ne (tgt := 40) rfl rfl (fun qc9 => ?_) (fun qc9 => ?_)
  · rw [if_pos qc9] at hf
    refine XS.go (s_iloadn rfl rfl rfl) ?_
    refine XS.go (s_iconst (v := 2) rfl rfl) ?_
    refine r_icmp_ne (tgt := 80) rfl rfl (fun qc10 => ?_) (fun qc10 => ?_)
    · rw [if_pos qc10] at hf
      refine XS.go (s_iloadn rfl rfl rfl) ?_
      refine XS.go (s_iconst (v := 4) rfl rfl) ?_
      refine r_icmp_ne (tgt := 180) rfl rfl (fun qc11 => ?_) (fun qc11 => ?_)
      · rw [if_pos qc11] at hf
        refine XS.go (s_iloadn rfl rfl rfl) ?_
        refine XS.go (s_iconst (v := 1) rfl rfl) ?_
        refine r_icmp_ne (tgt := 215) rfl rfl (fun qc12 => ?_) (fun qc12 => ?_)
        · rw [if_pos qc12] at hf
          refine XS.go (s_iconst (v := 0) rfl rfl) ?_
          cases hf
          exact XR.retz rfl rfl (by decide) (fun hret => ⟨_, hret, ⟨rfl, rfl⟩, L0⟩)
        · rw [if_neg qc12] at hf
          refine XS.go (s_aloadn rfl rfl rfl) ?_
          refine XS.go (s_aloadn rfl rfl rfl) ?_
          refine XS.go (s_getr rfl xf12_116 (LY.lt L0 (by decide)) (LY.k1262 L0) (by decide) rfl (LY.r1262_54 L0)) ?_
          refine XS.go (s_iconst (v := 0) rfl rfl) ?_
          refine XS.go (s_lalde rfl (LY.lt L0 (by decide)) (LY.k1298 L0) (inN (k := 0) (LY.n1298 L0) rfl (by decide) (by decide)) rfl) ?_
          refine XS.go (s_iloadn rfl rfl rfl) ?_
          refine XS.go (s_aloadn rfl rfl rfl) ?_
          refine XS.go (s_getr rfl xf12_85 (LY.lt L0 (by decide)) (LY.k1262 L0) (by decide) rfl (LY.r1262_37 L0)) ?_
          refine XS.go (s_iloadn rfl rfl rfl) ?_
          refine XS.go (s_ialde rfl (LY.lt L0 (by decide)) (LY.k1288 L0) (inLit (LY.n1288 L0) qk8.1 qk8.2 (by decide)) rfl) ?_
          refine XS.go (s_aloadn rfl rfl rfl) ?_
          refine XS.go (s_getr rfl xf12_82 (LY.lt L0 (by decide)) (LY.k1262 L0) (by decide) rfl (LY.r1262_36 L0)) ?_
          refine XS.go (s_iloadn rfl rfl rfl) ?_
          refine XS.go (s_ialde rfl (LY.lt L0 (by decide)) (LY.k1287 L0) (inLit (LY.n1287 L0) qk8.1 qk8.2 (by decide)) rfl) ?_
          rcases e14 : f_m_isThing (hj h 1298 (Int32.toNatClampNeg 0)) (hi h 1286 (Int32.toNatClampNeg a0)) (hi h 1288 (Int32.toNatClampNeg a0)) (hi h 1287 (Int32.toNatClampNeg a0)) h with _ | r13
          · rw [e14] at hf; cases hf
          rw [e14] at hf; dsimp only at hf
          refine r_callv rfl xvX12_isThing xm12_416 (kf_m_isThing (d := d) L0 e14) (LY.lt L0 (by decide)) (LY.k1262 L0) (by decide) rfl rfl (by omega) (by decide) (Nat.le_of_ble_eq_true rfl) ?_
          rintro _ _ ⟨⟨rfl, rfl⟩, L15⟩
          refine r_if_eq (tgt := 215) rfl rfl (fun qc16 => ?_) (fun qc16 => ?_)
          · rw [if_pos qc16] at hf
            refine XS.go (s_iconst (v := 0) rfl rfl) ?_
            cases hf
            exact XR.retz rfl rfl (by decide) (fun hret => ⟨_, hret, ⟨rfl, rfl⟩, L15⟩)
          · rw [if_neg qc16] at hf
            refine XS.go (s_iconst (v := 1) rfl rfl) ?_
            refine XS.go (s_goto (tgt := 216) rfl rfl) ?_
            cases hf
            exact XR.retz rfl rfl (by decide) (fun hret => ⟨_, hret, ⟨rfl, rfl⟩, L15⟩)
      · rw [if_neg qc11] at hf
        refine XS.go (s_iloadn rfl rfl rfl) ?_
        refine XS.go (s_iconst (v := 2) rfl rfl) ?_
        refine r_icmp_ne (tgt := 127) rfl rfl (fun qc17 => ?_) (fun qc17 => ?_)
        · rw [if_pos qc17] at hf
          exact XR.forget (L2 := [some (.ref 1262), some (.int a0), none, none, none]) ⟨rfl, ⟨rfl, trivial⟩⟩ (kb_m_fits_127 L0 hf)
        · rw [if_neg qc17] at hf
          refine XS.go (s_aloadn rfl rfl rfl) ?_
          refine XS.go (s_getr rfl xf12_116 (LY.lt L0 (by decide)) (LY.k1262 L0) (by decide) rfl (LY.r1262_54 L0)) ?_
          refine XS.go (s_iconst (v := 0) rfl rfl) ?_
          refine XS.go (s_lalde rfl (LY.lt L0 (by decide)) (LY.k1298 L0) (inN (k := 0) (LY.n1298 L0) rfl (by decide) (by decide)) rfl) ?_
          refine XS.go (s_lconst (v := 1) rfl rfl) ?_
          refine XS.go (s_lcmp rfl) ?_
          refine r_if_lt (tgt := 127) rfl rfl (fun qc18 => ?_) (fun qc18 => ?_)
          · rw [if_pos qc18] at hf
            exact XR.forget (L2 := [some (.ref 1262), some (.int a0), none, none, none]) ⟨rfl, ⟨rfl, trivial⟩⟩ (kb_m_fits_127 L0 hf)
          · rw [if_neg qc18] at hf
            refine XS.go (s_aloadn rfl rfl rfl) ?_
            refine XS.go (s_getr rfl xf12_116 (LY.lt L0 (by decide)) (LY.k1262 L0) (by decide) rfl (LY.r1262_54 L0)) ?_
            refine XS.go (s_iconst (v := 0) rfl rfl) ?_
            refine XS.go (s_lalde rfl (LY.lt L0 (by decide)) (LY.k1298 L0) (inN (k := 0) (LY.n1298 L0) rfl (by decide) (by decide)) rfl) ?_
            refine XS.go (s_aloadn rfl rfl rfl) ?_
            refine XS.go (s_getr rfl xf12_98 (LY.lt L0 (by decide)) (LY.k1262 L0) (by decide) rfl (LY.r1262_42 L0)) ?_
            refine XS.go (s_aloadn rfl rfl rfl) ?_
            refine XS.go (s_getr rfl xf12_82 (LY.lt L0 (by decide)) (LY.k1262 L0) (by decide) rfl (LY.r1262_36 L0)) ?_
            refine XS.go (s_iloadn rfl rfl rfl) ?_
            refine XS.go (s_ialde rfl (LY.lt L0 (by decide)) (LY.k1287 L0) (inLit (LY.n1287 L0) qk8.1 qk8.2 (by decide)) rfl) ?_
            by_cases qk19 : 0 ≤ (hi h 1287 (Int32.toNatClampNeg a0)) ∧ (hi h 1287 (Int32.toNatClampNeg a0)) < nI 8
            rotate_left
            · rw [if_neg qk19] at hf; cases hf
            rw [if_pos qk19] at hf
            refine XS.go (s_ialde rfl (LY.lt L0 (by decide)) (LY.k1292 L0) (inLit (LY.n1292 L0) qk19.1 qk19.2 (by decide)) rfl) ?_
            refine XS.go (s_i2l rfl) ?_
            refine XS.go (s_lcmp rfl) ?_
            refine r_if_gt (tgt := 127) rfl rfl (fun qc20 => ?_) (fun qc20 => ?_)
            · rw [if_pos qc20] at hf
              exact XR.forget (L2 := [some (.ref 1262), some (.int a0), none, none, none]) ⟨rfl, ⟨rfl, trivial⟩⟩ (kb_m_fits_127 L0 hf)
            · rw [if_neg qc20] at hf
              refine XS.go (s_iconst (v := 1) rfl rfl) ?_
              refine XS.go (s_goto (tgt := 128) rfl rfl) ?_
              exact XR.forget (L2 := [some (.ref 1262), some (.int a0), none, none, none]) ⟨rfl, ⟨rfl, trivial⟩⟩ (kb_m_fits_128 L0 hf)
    · rw [if_neg qc10] at hf
      refine XS.go (s_iloadn rfl rfl rfl) ?_
      refine XS.go (s_aloadn rfl rfl rfl) ?_
      refine XS.go (s_getr rfl xf12_61 (LY.lt L0 (by decide)) (LY.k1262 L0) (by decide) rfl (LY.r1262_28 L0)) ?_
      refine XS.go (s_aloadn rfl rfl rfl) ?_
      refine XS.go (s_getr rfl xf12_82 (LY.lt L0 (by decide)) (LY.k1262 L0) (by decide) rfl (LY.r1262_36 L0)) ?_
      refine XS.go (s_iloadn rfl rfl rfl) ?_
      refine XS.go (s_ialde rfl (LY.lt L0 (by decide)) (LY.k1287 L0) (inLit (LY.n1287 L0) qk8.1 qk8.2 (by decide)) rfl) ?_
      by_cases qk21 : 0 ≤ (hi h 1287 (Int32.toNatClampNeg a0)) ∧ (hi h 1287 (Int32.toNatClampNeg a0)) < nI 12
      rotate_left
      · rw [if_neg qk21] at hf; cases hf
      rw [if_pos qk21] at hf
      refine XS.go (s_ialde rfl (LY.lt L0 (by decide)) (LY.k1280 L0) (inLit (LY.n1280 L0) qk21.1 qk21.2 (by decide)) rfl) ?_
      refine r_icmp_ne (tgt := 78) rfl rfl (fun qc22 => ?_) (fun qc22 => ?_)
      · rw [if_pos qc22] at hf
        refine XS.go (s_iconst (v := 0) rfl rfl) ?_
        cases hf
        exact XR.retz rfl rfl (by decide) (fun hret => ⟨_, hret, ⟨rfl, rfl⟩, L0⟩)
      · rw [if_neg qc22] at hf
        refine XS.go (s_aloadn rfl rfl rfl) ?_
        refine XS.go (s_aloadn rfl rfl rfl) ?_
        refine XS.go (s_getr rfl xf12_82 (LY.lt L0 (by decide)) (LY.k1262 L0) (by decide) rfl (LY.r1262_36 L0)) ?_
        refine XS.go (s_iloadn rfl rfl rfl) ?_
        refine XS.go (s_ialde rfl (LY.lt L0 (by decide)) (LY.k1287 L0) (inLit (LY.n1287 L0) qk8.1 qk8.2 (by decide)) rfl) ?_
        refine XS.go (s_iconst (v := 0) rfl rfl) ?_
        rcases e24 : f_m_areOfStruct (hi h 1287 (Int32.toNatClampNeg a0)) 0 h with _ | r23
        · rw [e24] at hf; cases hf
        rw [e24] at hf; dsimp only at hf
        refine r_callv rfl xvX12_areOfStruct xm12_413 (kf_m_areOfStruct (d := d) L0 e24) (LY.lt L0 (by decide)) (LY.k1262 L0) (by decide) rfl rfl (by omega) (by decide) (Nat.le_of_ble_eq_true rfl) ?_
        rintro _ _ ⟨⟨rfl, rfl⟩, L25⟩
        refine r_if_eq (tgt := 78) rfl rfl (fun qc26 => ?_) (fun qc26 => ?_)
        · rw [if_pos qc26] at hf
          refine XS.go (s_iconst (v := 0) rfl rfl) ?_
          cases hf
          exact XR.retz rfl rfl (by decide) (fun hret => ⟨_, hret, ⟨rfl, rfl⟩, L25⟩)
        · rw [if_neg qc26] at hf
          refine XS.go (s_iconst (v := 1) rfl rfl) ?_
          refine XS.go (s_goto (tgt := 79) rfl rfl) ?_
          cases hf
          exact XR.retz rfl rfl (by decide) (fun hret => ⟨_, hret, ⟨rfl, rfl⟩, L25⟩)
  · rw [if_neg qc9] at hf
    refine XS.go (s_iloadn rfl rfl rfl) ?_
    refine XS.go (s_iconst (v := 1) rfl rfl) ?_
    refine r_icmp_ne (tgt := 38) rfl rfl (fun qc27 => ?_) (fun qc27 => ?_)
    · rw [if_pos qc27] at hf
      refine XS.go (s_iconst (v := 0) rfl rfl) ?_
      cases hf
      exact XR.retz rfl rfl (by decide) (fun hret => ⟨_, hret, ⟨rfl, rfl⟩, L0⟩)
    · rw [if_neg qc27] at hf
      refine XS.go (s_aloadn rfl rfl rfl) ?_
      refine XS.go (s_getr rfl xf12_82 (LY.lt L0 (by decide)) (LY.k1262 L0) (by decide) rfl (LY.r1262_36 L0)) ?_
      refine XS.go (s_iloadn rfl rfl rfl) ?_
      refine XS.go (s_ialde rfl (LY.lt L0 (by decide)) (LY.k1287 L0) (inLit (LY.n1287 L0) qk8.1 qk8.2 (by decide)) rfl) ?_
      refine XS.go (s_aloadn rfl rfl rfl) ?_
      refine XS.go (s_getr rfl xf12_116 (LY.lt L0 (by decide)) (LY.k1262 L0) (by decide) rfl (LY.r1262_54 L0)) ?_
      refine XS.go (s_iconst (v := 0) rfl rfl) ?_
      refine XS.go (s_lalde rfl (LY.lt L0 (by decide)) (LY.k1298 L0) (inN (k := 0) (LY.n1298 L0) rfl (by decide) (by decide)) rfl) ?_
      rcases e29 : f_m_isValue (hi h 1287 (Int32.toNatClampNeg a0)) (hj h 1298 (Int32.toNatClampNeg 0)) h with _ | r28
      · rw [e29] at hf; cases hf
      rw [e29] at hf; dsimp only at hf
      refine r_calls rfl xsX12_isValue xm12_334 (kf_m_isValue (d := d) L0 e29) rfl rfl (by omega) (by decide) (Nat.le_of_ble_eq_true rfl) ?_
      rintro _ _ ⟨⟨rfl, rfl⟩, L30⟩
      refine r_if_eq (tgt := 38) rfl rfl (fun qc31 => ?_) (fun qc31 => ?_)
      · rw [if_pos qc31] at hf
        refine XS.go (s_iconst (v := 0) rfl rfl) ?_
        cases hf
        exact XR.retz rfl rfl (by decide) (fun hret => ⟨_, hret, ⟨rfl, rfl⟩, L30⟩)
      · rw [if_neg qc31] at hf
        refine XS.go (s_iconst (v := 1) rfl rfl) ?_
        refine XS.go (s_goto (tgt := 39) rfl rfl) ?_
        cases hf
        exact XR.retz rfl rfl (by decide) (fun hret => ⟨_, hret, ⟨rfl, rfl⟩, L30⟩)
def b_m_set_356 (x8 : Int32) (h : XH) : Option (Int32 × XH) := (if 0 ≤ x8 ∧ x8 < nI 32 then (some (1, (hsi h 1307 (Int32.toNatClampNeg x8) (hi h 1262 57)))) else none)
set_option maxRecDepth 20000 in
theorem kb_m_set_356 {l : Launch} {G : XG} {d : Nat} {x8 : Int32} {h : XH} {r : Int32 × XH} (L0 : LY h) (hf : b_m_set_356 x8 h = some r) : XR l G xEX12_set (d + 4) (356, [some (.ref 1262), none, none, none, none, none, none, none, some (.int x8)], [], h) (fun C => ∃ v, xRet xEX12_set C v ∧ (C.2.2.2 = r.2 ∧ v = some (.int r.1)) ∧ LY r.2) := by
  unfold b_m_set_356 at hf
  refine XS.go (s_aloadn rfl rfl rfl) ?_
  refine XS.go (s_getr rfl xf12_148 (LY.lt L0 (by decide)) (LY.k1262 L0) (by decide) rfl (LY.r1262_70 L0)) ?_
  refine XS.go (s_iload rfl rfl) ?_
  refine XS.go (s_aloadn rfl rfl rfl) ?_
  refine XS.go (s_getie rfl xf12_382 (LY.lt L0 (by decide)) (LY.k1262 L0) (by decide) rfl rfl) ?_
  by_cases qk1 : 0 ≤ x8 ∧ x8 < nI 32
  rotate_left
  · rw [if_neg qk1] at hf; cases hf
  rw [if_pos qk1] at hf
  refine XS.go (s_iast rfl (LY.lt L0 (by decide)) (LY.k1307 L0) (inLit (LY.n1307 L0) qk1.1 qk1.2 (by decide))) ?_
  refine XS.go (s_iconst (v := 1) rfl rfl) ?_
  cases hf
  exact XR.retz rfl rfl (by decide) (fun hret => ⟨_, hret, ⟨rfl, rfl⟩, (by simp only [LY_si, LY_sj]; exact L0)⟩)
def b_m_set_326 (x4 : Int32) (x8 : Int32) (h : XH) : Option (Int32 × XH) := (if ¬ x4 = 4 then (b_m_set_356 x8 h) else (if 0 ≤ (x8 + 1) ∧ (x8 + 1) < nI 32 then (match f_m_ahead (hj h 1298 (Int32.toNatClampNeg 0)) 1 (hsi h 1307 (Int32.toNatClampNeg (x8 + 1)) (hi h 1262 57)) with | none => none | some r4 => (b_m_set_356 x8 r4.2)) else none))
set_option maxRecDepth 20000 in
theorem kb_m_set_326 {l : Launch} {G : XG} {d : Nat} {x4 : Int32} {x8 : Int32} {h : XH} {r : Int32 × XH} (L0 : LY h) (hf : b_m_set_326 x4 x8 h = some r) : XR l G xEX12_set (d + 4) (326, [some (.ref 1262), none, none, none, some (.int x4), none, none, none, some (.int x8)], [], h) (fun C => ∃ v, xRet xEX12_set C v ∧ (C.2.2.2 = r.2 ∧ v = some (.int r.1)) ∧ LY r.2) := by
  unfold b_m_set_326 at hf
  refine XS.go (s_iload rfl rfl) ?_
  refine XS.go (s_iconst (v := 4) rfl rfl) ?_
  refine r_icmp_ne (tgt := 356) rfl rfl (fun qc2 => ?_) (fun qc2 => ?_)
  · rw [if_pos qc2] at hf
    exact XR.forget (L2 := [some (.ref 1262), none, none, none, none, none, none, none, some (.int x8)]) ⟨rfl, ⟨rfl, trivial⟩⟩ (kb_m_set_356 L0 hf)
  · rw [if_neg qc2] at hf
    refine XS.go (s_aloadn rfl rfl rfl) ?_
    refine XS.go (s_getr rfl xf12_148 (LY.lt L0 (by decide)) (LY.k1262 L0) (by decide) rfl (LY.r1262_70 L0)) ?_
    refine XS.go (s_iload rfl rfl) ?_
    refine XS.go (s_iconst (v := 1) rfl rfl) ?_
    refine XS.go (s_iadd rfl) ?_
    refine XS.go (s_aloadn rfl rfl rfl) ?_
    refine XS.go (s_getie rfl xf12_382 (LY.lt L0 (by decide)) (LY.k1262 L0) (by decide) rfl rfl) ?_
    by_cases qk3 : 0 ≤ (x8 + 1) ∧ (x8 + 1) < nI 32
    rotate_left
    · rw [if_neg qk3] at hf; cases hf
    rw [if_pos qk3] at hf
    refine XS.go (s_iast rfl (LY.lt L0 (by decide)) (LY.k1307 L0) (inLit (LY.n1307 L0) qk3.1 qk3.2 (by decide))) ?_
    refine XS.go (s_aloadn rfl rfl rfl) ?_
    refine XS.go (s_aloadn rfl rfl rfl) ?_
    refine XS.go (s_getr rfl xf12_116 (LY.lt (by simp only [LY_si, LY_sj]; exact L0) (by decide)) (LY.k1262 (by simp only [LY_si, LY_sj]; exact L0)) (by decide) rfl (LY.r1262_54 (by simp only [LY_si, LY_sj]; exact L0))) ?_
    refine XS.go (s_iconst (v := 0) rfl rfl) ?_
    refine XS.go (s_lalde rfl (LY.lt (by simp only [LY_si, LY_sj]; exact L0) (by decide)) (LY.k1298 (by simp only [LY_si, LY_sj]; exact L0)) (inN (k := 0) (LY.n1298 (by simp only [LY_si, LY_sj]; exact L0)) rfl (by decide) (by decide)) (congrFun hj_hsi _)) ?_
    refine XS.go (s_iconst (v := 1) rfl rfl) ?_
    rcases e5 : f_m_ahead (hj h 1298 (Int32.toNatClampNeg 0)) 1 (hsi h 1307 (Int32.toNatClampNeg (x8 + 1)) (hi h 1262 57)) with _ | r4
    · rw [e5] at hf; cases hf
    rw [e5] at hf; dsimp only at hf
    refine r_callv rfl xvX12_ahead xm12_396 (kf_m_ahead (d := d) (by simp only [LY_si, LY_sj]; exact L0) e5) (LY.lt (by simp only [LY_si, LY_sj]; exact L0) (by decide)) (LY.k1262 (by simp only [LY_si, LY_sj]; exact L0)) (by decide) rfl rfl (by omega) (by decide) (Nat.le_of_ble_eq_true rfl) ?_
    rintro _ _ ⟨⟨rfl, rfl⟩, L6⟩
    exact XR.forget (L2 := [some (.ref 1262), none, none, none, none, none, none, none, some (.int x8)]) ⟨rfl, ⟨rfl, trivial⟩⟩ (kb_m_set_356 L6 hf)
def b_m_set_321 (x4 : Int32) (x8 : Int32) (y2 : Int32) (h : XH) : Option (Int32 × XH) := (if 0 ≤ y2 ∧ y2 < nI 600 then (match f_m_reference (Int64.toInt32 (hj h 1298 (Int32.toNatClampNeg y2))) h with | none => none | some r8 => (b_m_set_326 x4 x8 r8.2)) else none)
set_option maxRecDepth 20000 in
theorem kb_m_set_321 {l : Launch} {G : XG} {d : Nat} {x4 : Int32} {x8 : Int32} {y2 : Int32} {h : XH} {r : Int32 × XH} (L0 : LY h) (hf : b_m_set_321 x4 x8 y2 h = some r) : XR l G xEX12_set (d + 4) (321, [some (.ref 1262), none, none, none, some (.int x4), none, none, none, some (.int x8)], [(.int y2), (.ref 1298), (.ref 1262)], h) (fun C => ∃ v, xRet xEX12_set C v ∧ (C.2.2.2 = r.2 ∧ v = some (.int r.1)) ∧ LY r.2) := by
  unfold b_m_set_321 at hf
  by_cases qk7 : 0 ≤ y2 ∧ y2 < nI 600
  rotate_left
  · rw [if_neg qk7] at hf; cases hf
  rw [if_pos qk7] at hf
  refine XS.go (s_lalde rfl (LY.lt L0 (by decide)) (LY.k1298 L0) (inLit (LY.n1298 L0) qk7.1 qk7.2 (by decide)) rfl) ?_
  refine XS.go (s_l2i rfl) ?_
  rcases e9 : f_m_reference (Int64.toInt32 (hj h 1298 (Int32.toNatClampNeg y2))) h with _ | r8
  · rw [e9] at hf; cases hf
  rw [e9] at hf; dsimp only at hf
  refine r_callv rfl xvX12_reference xm12_423 (kf_m_reference (d := d) L0 e9) (LY.lt L0 (by decide)) (LY.k1262 L0) (by decide) rfl rfl (by omega) (by decide) (Nat.le_of_ble_eq_true rfl) ?_
  rintro _ _ ⟨⟨rfl, rfl⟩, L10⟩
  exact XR.forget (L2 := [some (.ref 1262), none, none, none, some (.int x4), none, none, none, some (.int x8)]) ⟨rfl, ⟨rfl, ⟨rfl, trivial⟩⟩⟩ (kb_m_set_326 L10 hf)
def b_m_set_224 (x1 : Int32) (x3 : Int32) (x4 : Int32) (x5 : Int32) (x6 : Int32) (x7 : Int32) (y0 : Int32) (y1 : Int32) (h : XH) : Option (Int32 × XH) := (if (y0 + y1) ≤ 4000 then (if 0 ≤ x1 ∧ x1 < nI 16 then (match f_m_aligned x6 (hsi h 1306 (Int32.toNatClampNeg x1) (vp_nar .boolean 1)) with | none => none | some r13 => (match f_m_zeros x7 r13.2 with | none => none | some r16 => (if 0 ≤ x3 ∧ x3 < nI 256 then (if ¬ x4 = 0 then (if ¬ x4 = 2 then (if ¬ x4 = 4 then (b_m_set_321 x4 (hi r16.2 1289 (Int32.toNatClampNeg x3)) 0 r16.2) else (b_m_set_321 x4 (hi r16.2 1289 (Int32.toNatClampNeg x3)) 1 r16.2)) else (match f_m_putStruct (hi r16.2 1287 (Int32.toNatClampNeg x3)) 0 r16.2 with | none => none | some r23 => (b_m_set_326 x4 (hi r16.2 1289 (Int32.toNatClampNeg x3)) r23.2))) else (match f_m_ahead (hj r16.2 1298 (Int32.toNatClampNeg 0)) x5 r16.2 with | none => none | some r26 => (b_m_set_326 x4 (hi r16.2 1289 (Int32.toNatClampNeg x3)) r26.2))) else none))) else none) else (some (0, (hsi h 1262 0 4))))
set_option maxRecDepth 20000 in
theorem kb_m_set_224 {l : Launch} {G : XG} {d : Nat} {x1 : Int32} {x3 : Int32} {x4 : Int32} {x5 : Int32} {x6 : Int32} {x7 : Int32} {y0 : Int32} {y1 : Int32} {h : XH} {r : Int32 × XH} (L0 : LY h) (hf : b_m_set_224 x1 x3 x4 x5 x6 x7 y0 y1 h = some r) : XR l G xEX12_set (d + 4) (224, [some (.ref 1262), some (.int x1), none, some (.int x3), some (.int x4), some (.int x5), some (.int x6), some (.int x7), none], [(.int y1), (.int y0)], h) (fun C => ∃ v, xRet xEX12_set C v ∧ (C.2.2.2 = r.2 ∧ v = some (.int r.1)) ∧ LY r.2) := by
  unfold b_m_set_224 at hf
  refine XS.go (s_iadd rfl) ?_
  refine XS.go (s_sipush (v := 4000) rfl rfl) ?_
  refine r_icmp_le (tgt := 238) rfl rfl (fun qc11 => ?_) (fun qc11 => ?_)
  · rw [if_pos qc11] at hf
    refine XS.go (s_aloadn rfl rfl rfl) ?_
    refine XS.go (s_getr rfl xf12_144 (LY.lt L0 (by decide)) (LY.k1262 L0) (by decide) rfl (LY.r1262_69 L0)) ?_
    refine XS.go (s_iloadn rfl rfl rfl) ?_
    refine XS.go (s_iconst (v := 1) rfl rfl) ?_
    by_cases qk12 : 0 ≤ x1 ∧ x1 < nI 16
    rotate_left
    · rw [if_neg qk12] at hf; cases hf
    rw [if_pos qk12] at hf
    refine XS.go (s_zast rfl (LY.lt L0 (by decide)) (LY.k1306 L0) (inLit (LY.n1306 L0) qk12.1 qk12.2 (by decide))) ?_
    refine XS.go (s_aloadn rfl rfl rfl) ?_
    refine XS.go (s_iload rfl rfl) ?_
    rcases e14 : f_m_aligned x6 (hsi h 1306 (Int32.toNatClampNeg x1) (vp_nar .boolean 1)) with _ | r13
    · rw [e14] at hf; cases hf
    rw [e14] at hf; dsimp only at hf
    refine r_callv rfl xvX12_aligned xm12_404 (kf_m_aligned (d := d) (by simp only [LY_si, LY_sj]; exact L0) e14) (LY.lt (by simp only [LY_si, LY_sj]; exact L0) (by decide)) (LY.k1262 (by simp only [LY_si, LY_sj]; exact L0)) (by decide) rfl rfl (by omega) (by decide) (Nat.le_of_ble_eq_true rfl) ?_
    rintro _ _ ⟨⟨rfl, rfl⟩, L15⟩
    refine XS.go (s_aloadn rfl rfl rfl) ?_
    refine XS.go (s_iload rfl rfl) ?_
    rcases e17 : f_m_zeros x7 r13.2 with _ | r16
    · rw [e17] at hf; cases hf
    rw [e17] at hf; dsimp only at hf
    refine r_callv rfl xvX12_zeros xm12_407 (kf_m_zeros (d := d) L15 e17) (LY.lt L15 (by decide)) (LY.k1262 L15) (by decide) rfl rfl (by omega) (by decide) (Nat.le_of_ble_eq_true rfl) ?_
    rintro _ _ ⟨⟨rfl, rfl⟩, L18⟩
    refine XS.go (s_aloadn rfl rfl rfl) ?_
    refine XS.go (s_getr rfl xf12_88 (LY.lt L18 (by decide)) (LY.k1262 L18) (by decide) rfl (LY.r1262_38 L18)) ?_
    refine XS.go (s_iloadn rfl rfl rfl) ?_
    by_cases qk19 : 0 ≤ x3 ∧ x3 < nI 256
    rotate_left
    · rw [if_neg qk19] at hf; cases hf
    rw [if_pos qk19] at hf
    refine XS.go (s_ialde rfl (LY.lt L18 (by decide)) (LY.k1289 L18) (inLit (LY.n1289 L18) qk19.1 qk19.2 (by decide)) rfl) ?_
    refine XS.go (s_istore rfl (Nat.le_of_ble_eq_true rfl)) ?_
    refine XS.go (s_iload rfl rfl) ?_
    refine r_if_ne (tgt := 285) rfl rfl (fun qc20 => ?_) (fun qc20 => ?_)
    · rw [if_pos qc20] at hf
      refine XS.go (s_iload rfl rfl) ?_
      refine XS.go (s_iconst (v := 2) rfl rfl) ?_
      refine r_icmp_ne (tgt := 305) rfl rfl (fun qc21 => ?_) (fun qc21 => ?_)
      · rw [if_pos qc21] at hf
        refine XS.go (s_aloadn rfl rfl rfl) ?_
        refine XS.go (s_aloadn rfl rfl rfl) ?_
        refine XS.go (s_getr rfl xf12_116 (LY.lt L18 (by decide)) (LY.k1262 L18) (by decide) rfl (LY.r1262_54 L18)) ?_
        refine XS.go (s_iload rfl rfl) ?_
        refine XS.go (s_iconst (v := 4) rfl rfl) ?_
        refine r_icmp_ne (tgt := 320) rfl rfl (fun qc22 => ?_) (fun qc22 => ?_)
        · rw [if_pos qc22] at hf
          refine XS.go (s_iconst (v := 0) rfl rfl) ?_
          exact XR.forget (L2 := [some (.ref 1262), none, none, none, some (.int x4), none, none, none, some (.int (hi r16.2 1289 (Int32.toNatClampNeg x3)))]) ⟨rfl, ⟨rfl, ⟨rfl, trivial⟩⟩⟩ (kb_m_set_321 L18 hf)
        · rw [if_neg qc22] at hf
          refine XS.go (s_iconst (v := 1) rfl rfl) ?_
          refine XS.go (s_goto (tgt := 321) rfl rfl) ?_
          exact XR.forget (L2 := [some (.ref 1262), none, none, none, some (.int x4), none, none, none, some (.int (hi r16.2 1289 (Int32.toNatClampNeg x3)))]) ⟨rfl, ⟨rfl, ⟨rfl, trivial⟩⟩⟩ (kb_m_set_321 L18 hf)
      · rw [if_neg qc21] at hf
        refine XS.go (s_aloadn rfl rfl rfl) ?_
        refine XS.go (s_aloadn rfl rfl rfl) ?_
        refine XS.go (s_getr rfl xf12_82 (LY.lt L18 (by decide)) (LY.k1262 L18) (by decide) rfl (LY.r1262_36 L18)) ?_
        refine XS.go (s_iloadn rfl rfl rfl) ?_
        refine XS.go (s_ialde rfl (LY.lt L18 (by decide)) (LY.k1287 L18) (inLit (LY.n1287 L18) qk19.1 qk19.2 (by decide)) rfl) ?_
        refine XS.go (s_iconst (v := 0) rfl rfl) ?_
        rcases e24 : f_m_putStruct (hi r16.2 1287 (Int32.toNatClampNeg x3)) 0 r16.2 with _ | r23
        · rw [e24] at hf; cases hf
        rw [e24] at hf; dsimp only at hf
        refine r_callv rfl xvX12_putStruct xm12_420 (kf_m_putStruct (d := d) L18 e24) (LY.lt L18 (by decide)) (LY.k1262 L18) (by decide) rfl rfl (by omega) (by decide) (Nat.le_of_ble_eq_true rfl) ?_
        rintro _ _ ⟨⟨rfl, rfl⟩, L25⟩
        refine XS.go (s_goto (tgt := 326) rfl rfl) ?_
        exact XR.forget (L2 := [some (.ref 1262), none, none, none, some (.int x4), none, none, none, some (.int (hi r16.2 1289 (Int32.toNatClampNeg x3)))]) ⟨rfl, ⟨rfl, ⟨rfl, trivial⟩⟩⟩ (kb_m_set_326 L25 hf)
    · rw [if_neg qc20] at hf
      refine XS.go (s_aloadn rfl rfl rfl) ?_
      refine XS.go (s_aloadn rfl rfl rfl) ?_
      refine XS.go (s_getr rfl xf12_116 (LY.lt L18 (by decide)) (LY.k1262 L18) (by decide) rfl (LY.r1262_54 L18)) ?_
      refine XS.go (s_iconst (v := 0) rfl rfl) ?_
      refine XS.go (s_lalde rfl (LY.lt L18 (by decide)) (LY.k1298 L18) (inN (k := 0) (LY.n1298 L18) rfl (by decide) (by decide)) rfl) ?_
      refine XS.go (s_iload rfl rfl) ?_
      rcases e27 : f_m_ahead (hj r16.2 1298 (Int32.toNatClampNeg 0)) x5 r16.2 with _ | r26
      · rw [e27] at hf; cases hf
      rw [e27] at hf; dsimp only at hf
      refine r_callv rfl xvX12_ahead xm12_396 (kf_m_ahead (d := d) L18 e27) (LY.lt L18 (by decide)) (LY.k1262 L18) (by decide) rfl rfl (by omega) (by decide) (Nat.le_of_ble_eq_true rfl) ?_
      rintro _ _ ⟨⟨rfl, rfl⟩, L28⟩
      refine XS.go (s_goto (tgt := 326) rfl rfl) ?_
      exact XR.forget (L2 := [some (.ref 1262), none, none, none, some (.int x4), none, none, none, some (.int (hi r16.2 1289 (Int32.toNatClampNeg x3)))]) ⟨rfl, ⟨rfl, ⟨rfl, trivial⟩⟩⟩ (kb_m_set_326 L28 hf)
  · rw [if_neg qc11] at hf
    refine XS.go (s_aloadn rfl rfl rfl) ?_
    refine XS.go (s_iconst (v := 4) rfl rfl) ?_
    refine XS.go (s_puti rfl xf12_175 (LY.lt L0 (by decide)) (LY.k1262 L0) (by decide) rfl (Or.inl rfl)) ?_
    refine XS.go (s_iconst (v := 0) rfl rfl) ?_
    cases hf
    exact XR.retz rfl rfl (by decide) (fun hret => ⟨_, hret, ⟨rfl, rfl⟩, (by simp only [LY_si, LY_sj]; exact L0)⟩)
def b_m_set_187 (x1 : Int32) (x3 : Int32) (x4 : Int32) (x5 : Int32) (y0 : Int32) (h : XH) : Option (Int32 × XH) := (match f_m_fill (hi h 1262 57) x5 y0 h with | none => none | some r29 => (if ¬ x4 = 4 then (b_m_set_224 x1 x3 x4 x5 y0 r29.1 (((hi r29.2 1262 57) + r29.1) + x5) 0 r29.2) else (b_m_set_224 x1 x3 x4 x5 y0 r29.1 (((hi r29.2 1262 57) + r29.1) + x5) 1 r29.2)))
set_option maxRecDepth 20000 in
theorem kb_m_set_187 {l : Launch} {G : XG} {d : Nat} {x1 : Int32} {x3 : Int32} {x4 : Int32} {x5 : Int32} {y0 : Int32} {h : XH} {r : Int32 × XH} (L0 : LY h) (hf : b_m_set_187 x1 x3 x4 x5 y0 h = some r) : XR l G xEX12_set (d + 4) (187, [some (.ref 1262), some (.int x1), none, some (.int x3), some (.int x4), some (.int x5), none, none, none], [(.int y0)], h) (fun C => ∃ v, xRet xEX12_set C v ∧ (C.2.2.2 = r.2 ∧ v = some (.int r.1)) ∧ LY r.2) := by
  unfold b_m_set_187 at hf
  refine XS.go (s_istore rfl (Nat.le_of_ble_eq_true rfl)) ?_
  refine XS.go (s_aloadn rfl rfl rfl) ?_
  refine XS.go (s_aloadn rfl rfl rfl) ?_
  refine XS.go (s_getie rfl xf12_382 (LY.lt L0 (by decide)) (LY.k1262 L0) (by decide) rfl rfl) ?_
  refine XS.go (s_iload rfl rfl) ?_
  refine XS.go (s_iload rfl rfl) ?_
  rcases e30 : f_m_fill (hi h 1262 57) x5 y0 h with _ | r29
  · rw [e30] at hf; cases hf
  rw [e30] at hf; dsimp only at hf
  refine r_callv rfl xvX12_fill xm12_400 (kf_m_fill (d := d) L0 e30) (LY.lt L0 (by decide)) (LY.k1262 L0) (by decide) rfl rfl (by omega) (by decide) (Nat.le_of_ble_eq_true rfl) ?_
  rintro _ _ ⟨⟨rfl, rfl⟩, L31⟩
  refine XS.go (s_istore rfl (Nat.le_of_ble_eq_true rfl)) ?_
  refine XS.go (s_aloadn rfl rfl rfl) ?_
  refine XS.go (s_getie rfl xf12_382 (LY.lt L31 (by decide)) (LY.k1262 L31) (by decide) rfl rfl) ?_
  refine XS.go (s_iload rfl rfl) ?_
  refine XS.go (s_iadd rfl) ?_
  refine XS.go (s_iload rfl rfl) ?_
  refine XS.go (s_iadd rfl) ?_
  refine XS.go (s_iload rfl rfl) ?_
  refine XS.go (s_iconst (v := 4) rfl rfl) ?_
  refine r_icmp_ne (tgt := 223) rfl rfl (fun qc32 => ?_) (fun qc32 => ?_)
  · rw [if_pos qc32] at hf
    refine XS.go (s_iconst (v := 0) rfl rfl) ?_
    exact XR.forget (L2 := [some (.ref 1262), some (.int x1), none, some (.int x3), some (.int x4), some (.int x5), some (.int y0), some (.int r29.1), none]) ⟨rfl, ⟨rfl, ⟨rfl, ⟨rfl, ⟨rfl, ⟨rfl, ⟨rfl, trivial⟩⟩⟩⟩⟩⟩⟩ (kb_m_set_224 L31 hf)
  · rw [if_neg qc32] at hf
    refine XS.go (s_iconst (v := 1) rfl rfl) ?_
    refine XS.go (s_goto (tgt := 224) rfl rfl) ?_
    exact XR.forget (L2 := [some (.ref 1262), some (.int x1), none, some (.int x3), some (.int x4), some (.int x5), some (.int y0), some (.int r29.1), none]) ⟨rfl, ⟨rfl, ⟨rfl, ⟨rfl, ⟨rfl, ⟨rfl, ⟨rfl, trivial⟩⟩⟩⟩⟩⟩⟩ (kb_m_set_224 L31 hf)
def b_m_set_154 (x1 : Int32) (x3 : Int32) (x4 : Int32) (y0 : Int32) (h : XH) : Option (Int32 × XH) := (if ¬ x4 = 0 then (if ¬ x4 = 2 then (b_m_set_187 x1 x3 x4 y0 4 h) else (if 0 ≤ x3 ∧ x3 < nI 256 then (if 0 ≤ (hi h 1287 (Int32.toNatClampNeg x3)) ∧ (hi h 1287 (Int32.toNatClampNeg x3)) < nI 12 then (b_m_set_187 x1 x3 x4 y0 (hi h 1275 (Int32.toNatClampNeg (hi h 1287 (Int32.toNatClampNeg x3)))) h) else none) else none)) else (b_m_set_187 x1 x3 x4 y0 y0 h))
set_option maxRecDepth 20000 in
theorem kb_m_set_154 {l : Launch} {G : XG} {d : Nat} {x1 : Int32} {x3 : Int32} {x4 : Int32} {y0 : Int32} {h : XH} {r : Int32 × XH} (L0 : LY h) (hf : b_m_set_154 x1 x3 x4 y0 h = some r) : XR l G xEX12_set (d + 4) (154, [some (.ref 1262), some (.int x1), none, some (.int x3), some (.int x4), none, none, none, none], [(.int y0)], h) (fun C => ∃ v, xRet xEX12_set C v ∧ (C.2.2.2 = r.2 ∧ v = some (.int r.1)) ∧ LY r.2) := by
  unfold b_m_set_154 at hf
  refine XS.go (s_istore rfl (Nat.le_of_ble_eq_true rfl)) ?_
  refine XS.go (s_iload rfl rfl) ?_
  refine r_if_ne (tgt := 166) rfl rfl (fun qc33 => ?_) (fun qc33 => ?_)
  · rw [if_pos qc33] at hf
    refine XS.go (s_iload rfl rfl) ?_
    refine XS.go (s_iconst (v := 2) rfl rfl) ?_
    refine r_icmp_ne (tgt := 186) rfl rfl (fun qc34 => ?_) (fun qc34 => ?_)
    · rw [if_pos qc34] at hf
      refine XS.go (s_iconst (v := 4) rfl rfl) ?_
      exact XR.forget (L2 := [some (.ref 1262), some (.int x1), none, some (.int x3), some (.int x4), some (.int y0), none, none, none]) ⟨rfl, ⟨rfl, ⟨rfl, ⟨rfl, ⟨rfl, trivial⟩⟩⟩⟩⟩ (kb_m_set_187 L0 hf)
    · rw [if_neg qc34] at hf
      refine XS.go (s_aloadn rfl rfl rfl) ?_
      refine XS.go (s_getr rfl xf12_46 (LY.lt L0 (by decide)) (LY.k1262 L0) (by decide) rfl (LY.r1262_23 L0)) ?_
      refine XS.go (s_aloadn rfl rfl rfl) ?_
      refine XS.go (s_getr rfl xf12_82 (LY.lt L0 (by decide)) (LY.k1262 L0) (by decide) rfl (LY.r1262_36 L0)) ?_
      refine XS.go (s_iloadn rfl rfl rfl) ?_
      by_cases qk35 : 0 ≤ x3 ∧ x3 < nI 256
      rotate_left
      · rw [if_neg qk35] at hf; cases hf
      rw [if_pos qk35] at hf
      refine XS.go (s_ialde rfl (LY.lt L0 (by decide)) (LY.k1287 L0) (inLit (LY.n1287 L0) qk35.1 qk35.2 (by decide)) rfl) ?_
      by_cases qk36 : 0 ≤ (hi h 1287 (Int32.toNatClampNeg x3)) ∧ (hi h 1287 (Int32.toNatClampNeg x3)) < nI 12
      rotate_left
      · rw [if_neg qk36] at hf; cases hf
      rw [if_pos qk36] at hf
      refine XS.go (s_ialde rfl (LY.lt L0 (by decide)) (LY.k1275 L0) (inLit (LY.n1275 L0) qk36.1 qk36.2 (by decide)) rfl) ?_
      refine XS.go (s_goto (tgt := 187) rfl rfl) ?_
      exact XR.forget (L2 := [some (.ref 1262), some (.int x1), none, some (.int x3), some (.int x4), some (.int y0), none, none, none]) ⟨rfl, ⟨rfl, ⟨rfl, ⟨rfl, ⟨rfl, trivial⟩⟩⟩⟩⟩ (kb_m_set_187 L0 hf)
  · rw [if_neg qc33] at hf
    refine XS.go (s_iload rfl rfl) ?_
    refine XS.go (s_goto (tgt := 187) rfl rfl) ?_
    exact XR.forget (L2 := [some (.ref 1262), some (.int x1), none, some (.int x3), some (.int x4), some (.int y0), none, none, none]) ⟨rfl, ⟨rfl, ⟨rfl, ⟨rfl, ⟨rfl, trivial⟩⟩⟩⟩⟩ (kb_m_set_187 L0 hf)
def b_m_set_116 (x1 : Int32) (x3 : Int32) (x4 : Int32) (h : XH) : Option (Int32 × XH) := (if ¬ x4 = 0 then (if ¬ x4 = 2 then (b_m_set_154 x1 x3 x4 4 h) else (if 0 ≤ x3 ∧ x3 < nI 256 then (if 0 ≤ (hi h 1287 (Int32.toNatClampNeg x3)) ∧ (hi h 1287 (Int32.toNatClampNeg x3)) < nI 12 then (b_m_set_154 x1 x3 x4 (hi h 1274 (Int32.toNatClampNeg (hi h 1287 (Int32.toNatClampNeg x3)))) h) else none) else none)) else (if 0 ≤ x3 ∧ x3 < nI 256 then (match f_m_bytesOf (hi h 1287 (Int32.toNatClampNeg x3)) h with | none => none | some r42 => (b_m_set_154 x1 x3 x4 r42.1 r42.2)) else none))
set_option maxRecDepth 20000 in
theorem kb_m_set_116 {l : Launch} {G : XG} {d : Nat} {x1 : Int32} {x3 : Int32} {x4 : Int32} {h : XH} {r : Int32 × XH} (L0 : LY h) (hf : b_m_set_116 x1 x3 x4 h = some r) : XR l G xEX12_set (d + 4) (116, [some (.ref 1262), some (.int x1), none, some (.int x3), some (.int x4), none, none, none, none], [], h) (fun C => ∃ v, xRet xEX12_set C v ∧ (C.2.2.2 = r.2 ∧ v = some (.int r.1)) ∧ LY r.2) := by
  unfold b_m_set_116 at hf
  refine XS.go (s_iload rfl rfl) ?_
  refine r_if_ne (tgt := 133) rfl rfl (fun qc37 => ?_) (fun qc37 => ?_)
  · rw [if_pos qc37] at hf
    refine XS.go (s_iload rfl rfl) ?_
    refine XS.go (s_iconst (v := 2) rfl rfl) ?_
    refine r_icmp_ne (tgt := 153) rfl rfl (fun qc38 => ?_) (fun qc38 => ?_)
    · rw [if_pos qc38] at hf
      refine XS.go (s_iconst (v := 4) rfl rfl) ?_
      exact XR.forget (L2 := [some (.ref 1262), some (.int x1), none, some (.int x3), some (.int x4), none, none, none, none]) ⟨rfl, ⟨rfl, ⟨rfl, ⟨rfl, trivial⟩⟩⟩⟩ (kb_m_set_154 L0 hf)
    · rw [if_neg qc38] at hf
      refine XS.go (s_aloadn rfl rfl rfl) ?_
      refine XS.go (s_getr rfl xf12_43 (LY.lt L0 (by decide)) (LY.k1262 L0) (by decide) rfl (LY.r1262_22 L0)) ?_
      refine XS.go (s_aloadn rfl rfl rfl) ?_
      refine XS.go (s_getr rfl xf12_82 (LY.lt L0 (by decide)) (LY.k1262 L0) (by decide) rfl (LY.r1262_36 L0)) ?_
      refine XS.go (s_iloadn rfl rfl rfl) ?_
      by_cases qk39 : 0 ≤ x3 ∧ x3 < nI 256
      rotate_left
      · rw [if_neg qk39] at hf; cases hf
      rw [if_pos qk39] at hf
      refine XS.go (s_ialde rfl (LY.lt L0 (by decide)) (LY.k1287 L0) (inLit (LY.n1287 L0) qk39.1 qk39.2 (by decide)) rfl) ?_
      by_cases qk40 : 0 ≤ (hi h 1287 (Int32.toNatClampNeg x3)) ∧ (hi h 1287 (Int32.toNatClampNeg x3)) < nI 12
      rotate_left
      · rw [if_neg qk40] at hf; cases hf
      rw [if_pos qk40] at hf
      refine XS.go (s_ialde rfl (LY.lt L0 (by decide)) (LY.k1274 L0) (inLit (LY.n1274 L0) qk40.1 qk40.2 (by decide)) rfl) ?_
      refine XS.go (s_goto (tgt := 154) rfl rfl) ?_
      exact XR.forget (L2 := [some (.ref 1262), some (.int x1), none, some (.int x3), some (.int x4), none, none, none, none]) ⟨rfl, ⟨rfl, ⟨rfl, ⟨rfl, trivial⟩⟩⟩⟩ (kb_m_set_154 L0 hf)
  · rw [if_neg qc37] at hf
    refine XS.go (s_aloadn rfl rfl rfl) ?_
    refine XS.go (s_getr rfl xf12_82 (LY.lt L0 (by decide)) (LY.k1262 L0) (by decide) rfl (LY.r1262_36 L0)) ?_
    refine XS.go (s_iloadn rfl rfl rfl) ?_
    by_cases qk41 : 0 ≤ x3 ∧ x3 < nI 256
    rotate_left
    · rw [if_neg qk41] at hf; cases hf
    rw [if_pos qk41] at hf
    refine XS.go (s_ialde rfl (LY.lt L0 (by decide)) (LY.k1287 L0) (inLit (LY.n1287 L0) qk41.1 qk41.2 (by decide)) rfl) ?_
    rcases e43 : f_m_bytesOf (hi h 1287 (Int32.toNatClampNeg x3)) h with _ | r42
    · rw [e43] at hf; cases hf
    rw [e43] at hf; dsimp only at hf
    refine r_calls rfl xsX12_bytesOf xm12_315 (kf_m_bytesOf (d := d) L0 e43) rfl rfl (by omega) (by decide) (Nat.le_of_ble_eq_true rfl) ?_
    rintro _ _ ⟨⟨rfl, rfl⟩, L44⟩
    refine XS.go (s_goto (tgt := 154) rfl rfl) ?_
    exact XR.forget (L2 := [some (.ref 1262), some (.int x1), none, some (.int x3), some (.int x4), none, none, none, none]) ⟨rfl, ⟨rfl, ⟨rfl, ⟨rfl, trivial⟩⟩⟩⟩ (kb_m_set_154 L44 hf)
def b_m_set_71 (h : XH) : Option (Int32 × XH) := (some (0, (hsi h 1262 0 3)))
set_option maxRecDepth 20000 in
theorem kb_m_set_71 {l : Launch} {G : XG} {d : Nat} {h : XH} {r : Int32 × XH} (L0 : LY h) (hf : b_m_set_71 h = some r) : XR l G xEX12_set (d + 4) (71, [some (.ref 1262), none, none, none, none, none, none, none, none], [], h) (fun C => ∃ v, xRet xEX12_set C v ∧ (C.2.2.2 = r.2 ∧ v = some (.int r.1)) ∧ LY r.2) := by
  unfold b_m_set_71 at hf
  refine XS.go (s_aloadn rfl rfl rfl) ?_
  refine XS.go (s_iconst (v := 3) rfl rfl) ?_
  refine XS.go (s_puti rfl xf12_175 (LY.lt L0 (by decide)) (LY.k1262 L0) (by decide) rfl (Or.inl rfl)) ?_
  refine XS.go (s_iconst (v := 0) rfl rfl) ?_
  cases hf
  exact XR.retz rfl rfl (by decide) (fun hret => ⟨_, hret, ⟨rfl, rfl⟩, (by simp only [LY_si, LY_sj]; exact L0)⟩)
def f_m_set (a0 : Int32) (h : XH) : Option (Int32 × XH) := (if ¬ (hi h 1262 67) = (-1) then (match f_m_fieldOf 0 (hi h 1262 67) a0 (hsi (hsi h 1262 0 0) 1262 55 0) with | none => none | some r46 => (if ¬ r46.1 = (-1) then (if 0 ≤ a0 ∧ a0 < nI 16 then (if ¬ (hi r46.2 1306 (Int32.toNatClampNeg a0)) = 0 then (b_m_set_71 r46.2) else (match f_m_fits r46.1 (hi h 1262 55) r46.2 with | none => none | some r52 => (if ¬ r52.1 = 0 then (if 0 ≤ r46.1 ∧ r46.1 < nI 256 then (if ¬ (hi r52.2 1286 (Int32.toNatClampNeg r46.1)) = 0 then (b_m_set_116 a0 r46.1 (hi r52.2 1286 (Int32.toNatClampNeg r46.1)) r52.2) else (if ¬ (lg_cmp (hj r52.2 1298 (Int32.toNatClampNeg 0)) (hj r52.2 1291 (Int32.toNatClampNeg r46.1))) = 0 then (b_m_set_116 a0 r46.1 (hi r52.2 1286 (Int32.toNatClampNeg r46.1)) r52.2) else (if 0 ≤ a0 ∧ a0 < nI 16 then (some (0, (hsi r52.2 1306 (Int32.toNatClampNeg a0) (vp_nar .boolean 1)))) else none))) else none) else (b_m_set_71 r52.2)))) else none) else (some (0, (hsi r46.2 1262 0 2))))) else (some (0, (hsi (hsi (hsi h 1262 0 0) 1262 55 0) 1262 0 1))))
set_option maxRecDepth 20000 in
theorem kf_m_set {l : Launch} {G : XG} {d : Nat} {a0 : Int32} {h : XH} {r : Int32 × XH} (L0 : LY h) (hf : f_m_set a0 h = some r) : XC l G xEX12_set (d + 4) [.ref 1262, .int a0] h (fun v h2 => (h2 = r.2 ∧ v = some (.int r.1)) ∧ LY r.2) := by
  refine XC.virt xvX12_set (Nat.le_of_ble_eq_true rfl) ?_
  unfold f_m_set at hf
  refine XS.go (s_aloadn rfl rfl rfl) ?_
  refine XS.go (s_iconst (v := 0) rfl rfl) ?_
  refine XS.go (s_puti rfl xf12_175 (LY.lt L0 (by decide)) (LY.k1262 L0) (by decide) rfl (Or.inl rfl)) ?_
  refine XS.go (s_aloadn rfl rfl rfl) ?_
  refine XS.go (s_getie rfl xf12_379 (LY.lt (by simp only [LY_si, LY_sj]; exact L0) (by decide)) (LY.k1262 (by simp only [LY_si, LY_sj]; exact L0)) (by decide) rfl (hi_hsi_nk (by decide))) ?_
  refine XS.go (s_istoren rfl rfl (Nat.le_of_ble_eq_true rfl)) ?_
  refine XS.go (s_aloadn rfl rfl rfl) ?_
  refine XS.go (s_iconst (v := 0) rfl rfl) ?_
  refine XS.go (s_puti rfl xf12_379 (LY.lt (by simp only [LY_si, LY_sj]; exact L0) (by decide)) (LY.k1262 (by simp only [LY_si, LY_sj]; exact L0)) (by decide) rfl (Or.inl rfl)) ?_
  refine XS.go (s_aloadn rfl rfl rfl) ?_
  refine XS.go (s_getie rfl xf12_140 (LY.lt (by simp only [LY_si, LY_sj]; exact L0) (by decide)) (LY.k1262 (by simp only [LY_si, LY_sj]; exact L0)) (by decide) rfl ((hi_hsi_nk (by decide)).trans (hi_hsi_nk (by decide)))) ?_
  refine XS.go (s_iconst (v := (-1)) rfl rfl) ?_
  refine r_icmp_ne (tgt := 30) rfl rfl (fun qc45 => ?_) (fun qc45 => ?_)
  · rw [if_pos qc45] at hf
    refine XS.go (s_aloadn rfl rfl rfl) ?_
    refine XS.go (s_iconst (v := 0) rfl rfl) ?_
    refine XS.go (s_aloadn rfl rfl rfl) ?_
    refine XS.go (s_getie rfl xf12_140 (LY.lt (by simp only [LY_si, LY_sj]; exact L0) (by decide)) (LY.k1262 (by simp only [LY_si, LY_sj]; exact L0)) (by decide) rfl ((hi_hsi_nk (by decide)).trans (hi_hsi_nk (by decide)))) ?_
    refine XS.go (s_iloadn rfl rfl rfl) ?_
    rcases e47 : f_m_fieldOf 0 (hi h 1262 67) a0 (hsi (hsi h 1262 0 0) 1262 55 0) with _ | r46
    · rw [e47] at hf; cases hf
    rw [e47] at hf; dsimp only at hf
    refine r_callv rfl xvX12_fieldOf xm12_375 (kf_m_fieldOf (d := d) (by simp only [LY_si, LY_sj]; exact L0) e47) (LY.lt (by simp only [LY_si, LY_sj]; exact L0) (by decide)) (LY.k1262 (by simp only [LY_si, LY_sj]; exact L0)) (by decide) rfl rfl (by omega) (by decide) (Nat.le_of_ble_eq_true rfl) ?_
    rintro _ _ ⟨⟨rfl, rfl⟩, L48⟩
    refine XS.go (s_istoren rfl rfl (Nat.le_of_ble_eq_true rfl)) ?_
    refine XS.go (s_iloadn rfl rfl rfl) ?_
    refine XS.go (s_iconst (v := (-1)) rfl rfl) ?_
    refine r_icmp_ne (tgt := 53) rfl rfl (fun qc49 => ?_) (fun qc49 => ?_)
    · rw [if_pos qc49] at hf
      refine XS.go (s_aloadn rfl rfl rfl) ?_
      refine XS.go (s_getr rfl xf12_144 (LY.lt L48 (by decide)) (LY.k1262 L48) (by decide) rfl (LY.r1262_69 L48)) ?_
      refine XS.go (s_iloadn rfl rfl rfl) ?_
      by_cases qk50 : 0 ≤ a0 ∧ a0 < nI 16
      rotate_left
      · rw [if_neg qk50] at hf; cases hf
      rw [if_pos qk50] at hf
      refine XS.go (s_zalde rfl (LY.lt L48 (by decide)) (LY.k1306 L48) (inLit (LY.n1306 L48) qk50.1 qk50.2 (by decide)) rfl) ?_
      refine r_if_ne (tgt := 71) rfl rfl (fun qc51 => ?_) (fun qc51 => ?_)
      · rw [if_pos qc51] at hf
        exact XR.forget (L2 := [some (.ref 1262), none, none, none, none, none, none, none, none]) ⟨rfl, trivial⟩ (kb_m_set_71 L48 hf)
      · rw [if_neg qc51] at hf
        refine XS.go (s_aloadn rfl rfl rfl) ?_
        refine XS.go (s_iloadn rfl rfl rfl) ?_
        refine XS.go (s_iloadn rfl rfl rfl) ?_
        rcases e53 : f_m_fits r46.1 (hi h 1262 55) r46.2 with _ | r52
        · rw [e53] at hf; cases hf
        rw [e53] at hf; dsimp only at hf
        refine r_callv rfl xvX12_fits xm12_429 (kf_m_fits (d := d) L48 e53) (LY.lt L48 (by decide)) (LY.k1262 L48) (by decide) rfl rfl (by omega) (by decide) (Nat.le_of_ble_eq_true rfl) ?_
        rintro _ _ ⟨⟨rfl, rfl⟩, L54⟩
        refine r_if_ne (tgt := 78) rfl rfl (fun qc55 => ?_) (fun qc55 => ?_)
        · rw [if_pos qc55] at hf
          refine XS.go (s_aloadn rfl rfl rfl) ?_
          refine XS.go (s_getr rfl xf12_79 (LY.lt L54 (by decide)) (LY.k1262 L54) (by decide) rfl (LY.r1262_35 L54)) ?_
          refine XS.go (s_iloadn rfl rfl rfl) ?_
          by_cases qk56 : 0 ≤ r46.1 ∧ r46.1 < nI 256
          rotate_left
          · rw [if_neg qk56] at hf; cases hf
          rw [if_pos qk56] at hf
          refine XS.go (s_ialde rfl (LY.lt L54 (by decide)) (LY.k1286 L54) (inLit (LY.n1286 L54) qk56.1 qk56.2 (by decide)) rfl) ?_
          refine XS.go (s_istore rfl (Nat.le_of_ble_eq_true rfl)) ?_
          refine XS.go (s_iload rfl rfl) ?_
          refine r_if_ne (tgt := 116) rfl rfl (fun qc57 => ?_) (fun qc57 => ?_)
          · rw [if_pos qc57] at hf
            exact XR.forget (L2 := [some (.ref 1262), some (.int a0), none, some (.int r46.1), some (.int (hi r52.2 1286 (Int32.toNatClampNeg r46.1))), none, none, none, none]) ⟨rfl, ⟨rfl, ⟨rfl, ⟨rfl, trivial⟩⟩⟩⟩ (kb_m_set_116 L54 hf)
          · rw [if_neg qc57] at hf
            refine XS.go (s_aloadn rfl rfl rfl) ?_
            refine XS.go (s_getr rfl xf12_116 (LY.lt L54 (by decide)) (LY.k1262 L54) (by decide) rfl (LY.r1262_54 L54)) ?_
            refine XS.go (s_iconst (v := 0) rfl rfl) ?_
            refine XS.go (s_lalde rfl (LY.lt L54 (by decide)) (LY.k1298 L54) (inN (k := 0) (LY.n1298 L54) rfl (by decide) (by decide)) rfl) ?_
            refine XS.go (s_aloadn rfl rfl rfl) ?_
            refine XS.go (s_getr rfl xf12_94 (LY.lt L54 (by decide)) (LY.k1262 L54) (by decide) rfl (LY.r1262_40 L54)) ?_
            refine XS.go (s_iloadn rfl rfl rfl) ?_
            refine XS.go (s_lalde rfl (LY.lt L54 (by decide)) (LY.k1291 L54) (inLit (LY.n1291 L54) qk56.1 qk56.2 (by decide)) rfl) ?_
            refine XS.go (s_lcmp rfl) ?_
            refine r_if_ne (tgt := 116) rfl rfl (fun qc58 => ?_) (fun qc58 => ?_)
            · rw [if_pos qc58] at hf
              exact XR.forget (L2 := [some (.ref 1262), some (.int a0), none, some (.int r46.1), some (.int (hi r52.2 1286 (Int32.toNatClampNeg r46.1))), none, none, none, none]) ⟨rfl, ⟨rfl, ⟨rfl, ⟨rfl, trivial⟩⟩⟩⟩ (kb_m_set_116 L54 hf)
            · rw [if_neg qc58] at hf
              refine XS.go (s_aloadn rfl rfl rfl) ?_
              refine XS.go (s_getr rfl xf12_144 (LY.lt L54 (by decide)) (LY.k1262 L54) (by decide) rfl (LY.r1262_69 L54)) ?_
              refine XS.go (s_iloadn rfl rfl rfl) ?_
              refine XS.go (s_iconst (v := 1) rfl rfl) ?_
              by_cases qk59 : 0 ≤ a0 ∧ a0 < nI 16
              rotate_left
              · rw [if_neg qk59] at hf; cases hf
              rw [if_pos qk59] at hf
              refine XS.go (s_zast rfl (LY.lt L54 (by decide)) (LY.k1306 L54) (inLit (LY.n1306 L54) qk59.1 qk59.2 (by decide))) ?_
              refine XS.go (s_iconst (v := 0) rfl rfl) ?_
              cases hf
              exact XR.retz rfl rfl (by decide) (fun hret => ⟨_, hret, ⟨rfl, rfl⟩, (by simp only [LY_si, LY_sj]; exact L54)⟩)
        · rw [if_neg qc55] at hf
          exact XR.forget (L2 := [some (.ref 1262), none, none, none, none, none, none, none, none]) ⟨rfl, trivial⟩ (kb_m_set_71 L54 hf)
    · rw [if_neg qc49] at hf
      refine XS.go (s_aloadn rfl rfl rfl) ?_
      refine XS.go (s_iconst (v := 2) rfl rfl) ?_
      refine XS.go (s_puti rfl xf12_175 (LY.lt L48 (by decide)) (LY.k1262 L48) (by decide) rfl (Or.inl rfl)) ?_
      refine XS.go (s_iconst (v := 0) rfl rfl) ?_
      cases hf
      exact XR.retz rfl rfl (by decide) (fun hret => ⟨_, hret, ⟨rfl, rfl⟩, (by simp only [LY_si, LY_sj]; exact L48)⟩)
  · rw [if_neg qc45] at hf
    refine XS.go (s_aloadn rfl rfl rfl) ?_
    refine XS.go (s_iconst (v := 1) rfl rfl) ?_
    refine XS.go (s_puti rfl xf12_175 (LY.lt (by simp only [LY_si, LY_sj]; exact L0) (by decide)) (LY.k1262 (by simp only [LY_si, LY_sj]; exact L0)) (by decide) rfl (Or.inl rfl)) ?_
    refine XS.go (s_iconst (v := 0) rfl rfl) ?_
    cases hf
    exact XR.retz rfl rfl (by decide) (fun hret => ⟨_, hret, ⟨rfl, rfl⟩, (by simp only [LY_si, LY_sj]; exact L0)⟩)
def b_m_lacks_44 (K2 : Int32 → XH → Option (Int32 × XH)) (x1 : Int32) (h : XH) : Option (Int32 × XH) := (K2 (x1 + 1) h)
set_option maxRecDepth 20000 in
theorem kb_m_lacks_44 {l : Launch} {G : XG} {d : Nat} {K2 : Int32 → XH → Option (Int32 × XH)} {x1 : Int32} {h : XH} {r : Int32 × XH} (hK2 : ∀ (x1 : Int32) (h : XH), LY h → K2 x1 h = some r → XR l G xEX12_lacks d (2, [some (.ref 1262), some (.int x1)], [], h) (fun C => ∃ v, xRet xEX12_lacks C v ∧ (C.2.2.2 = r.2 ∧ v = some (.int r.1)) ∧ LY r.2)) (L0 : LY h) (hf : b_m_lacks_44 K2 x1 h = some r) : XR l G xEX12_lacks d (44, [some (.ref 1262), some (.int x1)], [], h) (fun C => ∃ v, xRet xEX12_lacks C v ∧ (C.2.2.2 = r.2 ∧ v = some (.int r.1)) ∧ LY r.2) := by
  unfold b_m_lacks_44 at hf
  refine XS.go (s_inc rfl rfl (Nat.le_of_ble_eq_true rfl)) ?_
  refine XS.go (s_goto (tgt := 2) rfl rfl) ?_
  exact XR.forget (L2 := [some (.ref 1262), some (.int (x1 + 1))]) ⟨rfl, ⟨rfl, trivial⟩⟩ (hK2 (x1 + 1) _ L0 hf)
def s_m_lacks_2 (K2 : Int32 → XH → Option (Int32 × XH)) (x1 : Int32) (h : XH) : Option (Int32 × XH) := (if 0 ≤ (hi h 1262 67) ∧ (hi h 1262 67) < nI 16 then (if (hi h 1283 (Int32.toNatClampNeg (hi h 1262 67))) ≤ x1 then (some (0, h)) else (if 0 ≤ ((16 * (hi h 1262 67)) + x1) ∧ ((16 * (hi h 1262 67)) + x1) < nI 256 then (if ¬ (hi h 1290 (Int32.toNatClampNeg ((16 * (hi h 1262 67)) + x1))) = 1 then (b_m_lacks_44 K2 x1 h) else (if 0 ≤ x1 ∧ x1 < nI 16 then (if ¬ (hi h 1306 (Int32.toNatClampNeg x1)) = 0 then (b_m_lacks_44 K2 x1 h) else (some (1, h))) else none)) else none)) else none)
set_option maxRecDepth 20000 in
theorem ks_m_lacks_2 {l : Launch} {G : XG} {d : Nat} {K2 : Int32 → XH → Option (Int32 × XH)} {x1 : Int32} {h : XH} {r : Int32 × XH} (hK2 : ∀ (x1 : Int32) (h : XH), LY h → K2 x1 h = some r → XR l G xEX12_lacks d (2, [some (.ref 1262), some (.int x1)], [], h) (fun C => ∃ v, xRet xEX12_lacks C v ∧ (C.2.2.2 = r.2 ∧ v = some (.int r.1)) ∧ LY r.2)) (L0 : LY h) (hf : s_m_lacks_2 K2 x1 h = some r) : XR l G xEX12_lacks d (2, [some (.ref 1262), some (.int x1)], [], h) (fun C => ∃ v, xRet xEX12_lacks C v ∧ (C.2.2.2 = r.2 ∧ v = some (.int r.1)) ∧ LY r.2) := by
  unfold s_m_lacks_2 at hf
  refine XS.go (s_iloadn rfl rfl rfl) ?_
  refine XS.go (s_aloadn rfl rfl rfl) ?_
  refine XS.go (s_getr rfl xf12_70 (LY.lt L0 (by decide)) (LY.k1262 L0) (by decide) rfl (LY.r1262_32 L0)) ?_
  refine XS.go (s_aloadn rfl rfl rfl) ?_
  refine XS.go (s_getie rfl xf12_140 (LY.lt L0 (by decide)) (LY.k1262 L0) (by decide) rfl rfl) ?_
  by_cases qk1 : 0 ≤ (hi h 1262 67) ∧ (hi h 1262 67) < nI 16
  rotate_left
  · rw [if_neg qk1] at hf; cases hf
  rw [if_pos qk1] at hf
  refine XS.go (s_ialde rfl (LY.lt L0 (by decide)) (LY.k1283 L0) (inLit (LY.n1283 L0) qk1.1 qk1.2 (by decide)) rfl) ?_
  refine r_icmp_ge (tgt := 50) rfl rfl (fun qc2 => ?_) (fun qc2 => ?_)
  · rw [if_pos qc2] at hf
    refine XS.go (s_iconst (v := 0) rfl rfl) ?_
    cases hf
    exact XR.retz rfl rfl (by decide) (fun hret => ⟨_, hret, ⟨rfl, rfl⟩, L0⟩)
  · rw [if_neg qc2] at hf
    refine XS.go (s_aloadn rfl rfl rfl) ?_
    refine XS.go (s_getr rfl xf12_91 (LY.lt L0 (by decide)) (LY.k1262 L0) (by decide) rfl (LY.r1262_39 L0)) ?_
    refine XS.go (s_bipush (v := 16) rfl rfl) ?_
    refine XS.go (s_aloadn rfl rfl rfl) ?_
    refine XS.go (s_getie rfl xf12_140 (LY.lt L0 (by decide)) (LY.k1262 L0) (by decide) rfl rfl) ?_
    refine XS.go (s_imul rfl) ?_
    refine XS.go (s_iloadn rfl rfl rfl) ?_
    refine XS.go (s_iadd rfl) ?_
    by_cases qk3 : 0 ≤ ((16 * (hi h 1262 67)) + x1) ∧ ((16 * (hi h 1262 67)) + x1) < nI 256
    rotate_left
    · rw [if_neg qk3] at hf; cases hf
    rw [if_pos qk3] at hf
    refine XS.go (s_ialde rfl (LY.lt L0 (by decide)) (LY.k1290 L0) (inLit (LY.n1290 L0) qk3.1 qk3.2 (by decide)) rfl) ?_
    refine XS.go (s_iconst (v := 1) rfl rfl) ?_
    refine r_icmp_ne (tgt := 44) rfl rfl (fun qc4 => ?_) (fun qc4 => ?_)
    · rw [if_pos qc4] at hf
      exact XR.forget (L2 := [some (.ref 1262), some (.int x1)]) ⟨rfl, ⟨rfl, trivial⟩⟩ (kb_m_lacks_44 hK2 L0 hf)
    · rw [if_neg qc4] at hf
      refine XS.go (s_aloadn rfl rfl rfl) ?_
      refine XS.go (s_getr rfl xf12_144 (LY.lt L0 (by decide)) (LY.k1262 L0) (by decide) rfl (LY.r1262_69 L0)) ?_
      refine XS.go (s_iloadn rfl rfl rfl) ?_
      by_cases qk5 : 0 ≤ x1 ∧ x1 < nI 16
      rotate_left
      · rw [if_neg qk5] at hf; cases hf
      rw [if_pos qk5] at hf
      refine XS.go (s_zalde rfl (LY.lt L0 (by decide)) (LY.k1306 L0) (inLit (LY.n1306 L0) qk5.1 qk5.2 (by decide)) rfl) ?_
      refine r_if_ne (tgt := 44) rfl rfl (fun qc6 => ?_) (fun qc6 => ?_)
      · rw [if_pos qc6] at hf
        exact XR.forget (L2 := [some (.ref 1262), some (.int x1)]) ⟨rfl, ⟨rfl, trivial⟩⟩ (kb_m_lacks_44 hK2 L0 hf)
      · rw [if_neg qc6] at hf
        refine XS.go (s_iconst (v := 1) rfl rfl) ?_
        cases hf
        exact XR.retz rfl rfl (by decide) (fun hret => ⟨_, hret, ⟨rfl, rfl⟩, L0⟩)
def b_m_lacks_2 : Nat → Int32 → XH → Option (Int32 × XH)
  | 0, _, _ => none
  | n + 1, x1, h => s_m_lacks_2 (b_m_lacks_2 n) x1 h
theorem kb_m_lacks_2 {l : Launch} {G : XG} {d : Nat} {n : Nat} {x1 : Int32} {h : XH} {r : Int32 × XH} (L0 : LY h) (hf : b_m_lacks_2 n x1 h = some r) : XR l G xEX12_lacks d (2, [some (.ref 1262), some (.int x1)], [], h) (fun C => ∃ v, xRet xEX12_lacks C v ∧ (C.2.2.2 = r.2 ∧ v = some (.int r.1)) ∧ LY r.2) := by
  induction n generalizing x1 h with
  | zero => cases hf
  | succ n ih => exact ks_m_lacks_2 (fun x1 h L0 hf => ih (h := h) (x1 := x1) L0 hf) L0 hf
def f_m_lacks (h : XH) : Option (Int32 × XH) := (b_m_lacks_2 100000 0 h)
set_option maxRecDepth 20000 in
theorem kf_m_lacks {l : Launch} {G : XG} {d : Nat} {h : XH} {r : Int32 × XH} (L0 : LY h) (hf : f_m_lacks h = some r) : XC l G xEX12_lacks d [.ref 1262] h (fun v h2 => (h2 = r.2 ∧ v = some (.int r.1)) ∧ LY r.2) := by
  refine XC.virt xvX12_lacks (Nat.le_of_ble_eq_true rfl) ?_
  unfold f_m_lacks at hf
  refine XS.go (s_iconst (v := 0) rfl rfl) ?_
  refine XS.go (s_istoren rfl rfl (Nat.le_of_ble_eq_true rfl)) ?_
  exact XR.forget (L2 := [some (.ref 1262), some (.int 0)]) ⟨rfl, ⟨rfl, trivial⟩⟩ (kb_m_lacks_2 L0 hf)
def b_m_known_77 (K2 : Int32 → Int32 → XH → Option (Int32 × XH)) (x1 : Int32) (x2 : Int32) (x3 : Int32) (h : XH) : Option (Int32 × XH) := (if x3 = 0 then (K2 x1 (x2 + 1) h) else (if 0 ≤ x2 ∧ x2 < nI 300 then (some ((hi h 1304 (Int32.toNatClampNeg x2)), h)) else none))
set_option maxRecDepth 20000 in
theorem kb_m_known_77 {l : Launch} {G : XG} {d : Nat} {K2 : Int32 → Int32 → XH → Option (Int32 × XH)} {x1 : Int32} {x2 : Int32} {x3 : Int32} {h : XH} {r : Int32 × XH} (hK2 : ∀ (x1 : Int32) (x2 : Int32) (h : XH), LY h → K2 x1 x2 h = some r → XR l G xEX12_known d (2, [some (.ref 1262), some (.int x1), some (.int x2), none, none], [], h) (fun C => ∃ v, xRet xEX12_known C v ∧ (C.2.2.2 = r.2 ∧ v = some (.int r.1)) ∧ LY r.2)) (L0 : LY h) (hf : b_m_known_77 K2 x1 x2 x3 h = some r) : XR l G xEX12_known d (77, [some (.ref 1262), some (.int x1), some (.int x2), some (.int x3), none], [], h) (fun C => ∃ v, xRet xEX12_known C v ∧ (C.2.2.2 = r.2 ∧ v = some (.int r.1)) ∧ LY r.2) := by
  unfold b_m_known_77 at hf
  refine XS.go (s_iloadn rfl rfl rfl) ?_
  refine r_if_eq (tgt := 88) rfl rfl (fun qc1 => ?_) (fun qc1 => ?_)
  · rw [if_pos qc1] at hf
    refine XS.go (s_inc rfl rfl (Nat.le_of_ble_eq_true rfl)) ?_
    refine XS.go (s_goto (tgt := 2) rfl rfl) ?_
    exact XR.forget (L2 := [some (.ref 1262), some (.int x1), some (.int (x2 + 1)), none, none]) ⟨rfl, ⟨rfl, ⟨rfl, trivial⟩⟩⟩ (hK2 x1 (x2 + 1) _ L0 hf)
  · rw [if_neg qc1] at hf
    refine XS.go (s_aloadn rfl rfl rfl) ?_
    refine XS.go (s_getr rfl xf12_134 (LY.lt L0 (by decide)) (LY.k1262 L0) (by decide) rfl (LY.r1262_65 L0)) ?_
    refine XS.go (s_iloadn rfl rfl rfl) ?_
    by_cases qk2 : 0 ≤ x2 ∧ x2 < nI 300
    rotate_left
    · rw [if_neg qk2] at hf; cases hf
    rw [if_pos qk2] at hf
    refine XS.go (s_ialde rfl (LY.lt L0 (by decide)) (LY.k1304 L0) (inLit (LY.n1304 L0) qk2.1 qk2.2 (by decide)) rfl) ?_
    cases hf
    exact XR.reti rfl rfl (fun hret => ⟨_, hret, ⟨rfl, rfl⟩, L0⟩)
def b_m_known_70 (K2 : Int32 → Int32 → XH → Option (Int32 × XH)) (K29 : Int32 → Int32 → Int32 → Int32 → XH → Option (Int32 × XH)) (x1 : Int32) (x2 : Int32) (x4 : Int32) (y0 : Int32) (h : XH) : Option (Int32 × XH) := (K29 x1 x2 y0 (x4 + 1) h)
set_option maxRecDepth 20000 in
theorem kb_m_known_70 {l : Launch} {G : XG} {d : Nat} {K2 : Int32 → Int32 → XH → Option (Int32 × XH)} {K29 : Int32 → Int32 → Int32 → Int32 → XH → Option (Int32 × XH)} {x1 : Int32} {x2 : Int32} {x4 : Int32} {y0 : Int32} {h : XH} {r : Int32 × XH} (hK2 : ∀ (x1 : Int32) (x2 : Int32) (h : XH), LY h → K2 x1 x2 h = some r → XR l G xEX12_known d (2, [some (.ref 1262), some (.int x1), some (.int x2), none, none], [], h) (fun C => ∃ v, xRet xEX12_known C v ∧ (C.2.2.2 = r.2 ∧ v = some (.int r.1)) ∧ LY r.2)) (hK29 : ∀ (x1 : Int32) (x2 : Int32) (x3 : Int32) (x4 : Int32) (h : XH), LY h → K29 x1 x2 x3 x4 h = some r → XR l G xEX12_known d (29, [some (.ref 1262), some (.int x1), some (.int x2), some (.int x3), some (.int x4)], [], h) (fun C => ∃ v, xRet xEX12_known C v ∧ (C.2.2.2 = r.2 ∧ v = some (.int r.1)) ∧ LY r.2)) (L0 : LY h) (hf : b_m_known_70 K2 K29 x1 x2 x4 y0 h = some r) : XR l G xEX12_known d (70, [some (.ref 1262), some (.int x1), some (.int x2), none, some (.int x4)], [(.int y0)], h) (fun C => ∃ v, xRet xEX12_known C v ∧ (C.2.2.2 = r.2 ∧ v = some (.int r.1)) ∧ LY r.2) := by
  unfold b_m_known_70 at hf
  refine XS.go (s_istoren rfl rfl (Nat.le_of_ble_eq_true rfl)) ?_
  refine XS.go (s_inc rfl rfl (Nat.le_of_ble_eq_true rfl)) ?_
  refine XS.go (s_goto (tgt := 29) rfl rfl) ?_
  exact XR.forget (L2 := [some (.ref 1262), some (.int x1), some (.int x2), some (.int y0), some (.int (x4 + 1))]) ⟨rfl, ⟨rfl, ⟨rfl, ⟨rfl, ⟨rfl, trivial⟩⟩⟩⟩⟩ (hK29 x1 x2 y0 (x4 + 1) _ L0 hf)
def s_m_known_29 (K2 : Int32 → Int32 → XH → Option (Int32 × XH)) (K29 : Int32 → Int32 → Int32 → Int32 → XH → Option (Int32 × XH)) (x1 : Int32) (x2 : Int32) (x3 : Int32) (x4 : Int32) (h : XH) : Option (Int32 × XH) := (if x1 ≤ x4 then (b_m_known_77 K2 x1 x2 x3 h) else (if x3 = 0 then (b_m_known_77 K2 x1 x2 x3 h) else (if 0 ≤ x2 ∧ x2 < nI 300 then (if 0 ≤ (((hi h 1304 (Int32.toNatClampNeg x2)) - 1) - x4) ∧ (((hi h 1304 (Int32.toNatClampNeg x2)) - 1) - x4) < nI 4300 then (if 0 ≤ x4 ∧ x4 < nI 68 then (if ¬ (hi h 1299 (Int32.toNatClampNeg (((hi h 1304 (Int32.toNatClampNeg x2)) - 1) - x4))) = (hi h 1309 (Int32.toNatClampNeg x4)) then (b_m_known_70 K2 K29 x1 x2 x4 0 h) else (b_m_known_70 K2 K29 x1 x2 x4 1 h)) else none) else none) else none)))
set_option maxRecDepth 20000 in
theorem ks_m_known_29 {l : Launch} {G : XG} {d : Nat} {K2 : Int32 → Int32 → XH → Option (Int32 × XH)} {K29 : Int32 → Int32 → Int32 → Int32 → XH → Option (Int32 × XH)} {x1 : Int32} {x2 : Int32} {x3 : Int32} {x4 : Int32} {h : XH} {r : Int32 × XH} (hK2 : ∀ (x1 : Int32) (x2 : Int32) (h : XH), LY h → K2 x1 x2 h = some r → XR l G xEX12_known d (2, [some (.ref 1262), some (.int x1), some (.int x2), none, none], [], h) (fun C => ∃ v, xRet xEX12_known C v ∧ (C.2.2.2 = r.2 ∧ v = some (.int r.1)) ∧ LY r.2)) (hK29 : ∀ (x1 : Int32) (x2 : Int32) (x3 : Int32) (x4 : Int32) (h : XH), LY h → K29 x1 x2 x3 x4 h = some r → XR l G xEX12_known d (29, [some (.ref 1262), some (.int x1), some (.int x2), some (.int x3), some (.int x4)], [], h) (fun C => ∃ v, xRet xEX12_known C v ∧ (C.2.2.2 = r.2 ∧ v = some (.int r.1)) ∧ LY r.2)) (L0 : LY h) (hf : s_m_known_29 K2 K29 x1 x2 x3 x4 h = some r) : XR l G xEX12_known d (29, [some (.ref 1262), some (.int x1), some (.int x2), some (.int x3), some (.int x4)], [], h) (fun C => ∃ v, xRet xEX12_known C v ∧ (C.2.2.2 = r.2 ∧ v = some (.int r.1)) ∧ LY r.2) := by
  unfold s_m_known_29 at hf
  refine XS.go (s_iload rfl rfl) ?_
  refine XS.go (s_iloadn rfl rfl rfl) ?_
  refine r_icmp_ge (tgt := 77) rfl rfl (fun qc3 => ?_) (fun qc3 => ?_)
  · rw [if_pos qc3] at hf
    exact XR.forget (L2 := [some (.ref 1262), some (.int x1), some (.int x2), some (.int x3), none]) ⟨rfl, ⟨rfl, ⟨rfl, ⟨rfl, trivial⟩⟩⟩⟩ (kb_m_known_77 hK2 L0 hf)
  · rw [if_neg qc3] at hf
    refine XS.go (s_iloadn rfl rfl rfl) ?_
    refine r_if_eq (tgt := 77) rfl rfl (fun qc4 => ?_) (fun qc4 => ?_)
    · rw [if_pos qc4] at hf
      exact XR.forget (L2 := [some (.ref 1262), some (.int x1), some (.int x2), some (.int x3), none]) ⟨rfl, ⟨rfl, ⟨rfl, ⟨rfl, trivial⟩⟩⟩⟩ (kb_m_known_77 hK2 L0 hf)
    · rw [if_neg qc4] at hf
      refine XS.go (s_aloadn rfl rfl rfl) ?_
      refine XS.go (s_getr rfl xf12_119 (LY.lt L0 (by decide)) (LY.k1262 L0) (by decide) rfl (LY.r1262_56 L0)) ?_
      refine XS.go (s_aloadn rfl rfl rfl) ?_
      refine XS.go (s_getr rfl xf12_134 (LY.lt L0 (by decide)) (LY.k1262 L0) (by decide) rfl (LY.r1262_65 L0)) ?_
      refine XS.go (s_iloadn rfl rfl rfl) ?_
      by_cases qk5 : 0 ≤ x2 ∧ x2 < nI 300
      rotate_left
      · rw [if_neg qk5] at hf; cases hf
      rw [if_pos qk5] at hf
      refine XS.go (s_ialde rfl (LY.lt L0 (by decide)) (LY.k1304 L0) (inLit (LY.n1304 L0) qk5.1 qk5.2 (by decide)) rfl) ?_
      refine XS.go (s_iconst (v := 1) rfl rfl) ?_
      refine XS.go (s_isub rfl) ?_
      refine XS.go (s_iload rfl rfl) ?_
      refine XS.go (s_isub rfl) ?_
      by_cases qk6 : 0 ≤ (((hi h 1304 (Int32.toNatClampNeg x2)) - 1) - x4) ∧ (((hi h 1304 (Int32.toNatClampNeg x2)) - 1) - x4) < nI 4300
      rotate_left
      · rw [if_neg qk6] at hf; cases hf
      rw [if_pos qk6] at hf
      refine XS.go (s_ialde rfl (LY.lt L0 (by decide)) (LY.k1299 L0) (inLit (LY.n1299 L0) qk6.1 qk6.2 (by decide)) rfl) ?_
      refine XS.go (s_aloadn rfl rfl rfl) ?_
      refine XS.go (s_getr rfl xf12_154 (LY.lt L0 (by decide)) (LY.k1262 L0) (by decide) rfl (LY.r1262_73 L0)) ?_
      refine XS.go (s_iload rfl rfl) ?_
      by_cases qk7 : 0 ≤ x4 ∧ x4 < nI 68
      rotate_left
      · rw [if_neg qk7] at hf; cases hf
      rw [if_pos qk7] at hf
      refine XS.go (s_ialde rfl (LY.lt L0 (by decide)) (LY.k1309 L0) (inLit (LY.n1309 L0) qk7.1 qk7.2 (by decide)) rfl) ?_
      refine r_icmp_ne (tgt := 69) rfl rfl (fun qc8 => ?_) (fun qc8 => ?_)
      · rw [if_pos qc8] at hf
        refine XS.go (s_iconst (v := 0) rfl rfl) ?_
        exact XR.forget (L2 := [some (.ref 1262), some (.int x1), some (.int x2), none, some (.int x4)]) ⟨rfl, ⟨rfl, ⟨rfl, ⟨rfl, trivial⟩⟩⟩⟩ (kb_m_known_70 hK2 hK29 L0 hf)
      · rw [if_neg qc8] at hf
        refine XS.go (s_iconst (v := 1) rfl rfl) ?_
        refine XS.go (s_goto (tgt := 70) rfl rfl) ?_
        exact XR.forget (L2 := [some (.ref 1262), some (.int x1), some (.int x2), none, some (.int x4)]) ⟨rfl, ⟨rfl, ⟨rfl, ⟨rfl, trivial⟩⟩⟩⟩ (kb_m_known_70 hK2 hK29 L0 hf)
def b_m_known_29 (K2 : Int32 → Int32 → XH → Option (Int32 × XH)) : Nat → Int32 → Int32 → Int32 → Int32 → XH → Option (Int32 × XH)
  | 0, _, _, _, _, _ => none
  | n + 1, x1, x2, x3, x4, h => s_m_known_29 K2 (b_m_known_29 K2 n) x1 x2 x3 x4 h
theorem kb_m_known_29 {l : Launch} {G : XG} {d : Nat} {K2 : Int32 → Int32 → XH → Option (Int32 × XH)} {n : Nat} {x1 : Int32} {x2 : Int32} {x3 : Int32} {x4 : Int32} {h : XH} {r : Int32 × XH} (hK2 : ∀ (x1 : Int32) (x2 : Int32) (h : XH), LY h → K2 x1 x2 h = some r → XR l G xEX12_known d (2, [some (.ref 1262), some (.int x1), some (.int x2), none, none], [], h) (fun C => ∃ v, xRet xEX12_known C v ∧ (C.2.2.2 = r.2 ∧ v = some (.int r.1)) ∧ LY r.2)) (L0 : LY h) (hf : b_m_known_29 K2 n x1 x2 x3 x4 h = some r) : XR l G xEX12_known d (29, [some (.ref 1262), some (.int x1), some (.int x2), some (.int x3), some (.int x4)], [], h) (fun C => ∃ v, xRet xEX12_known C v ∧ (C.2.2.2 = r.2 ∧ v = some (.int r.1)) ∧ LY r.2) := by
  induction n generalizing x1 x2 x3 x4 h with
  | zero => cases hf
  | succ n ih => exact ks_m_known_29 hK2 (fun x1 x2 x3 x4 h L0 hf => ih (h := h) (x1 := x1) (x2 := x2) (x3 := x3) (x4 := x4) L0 hf) L0 hf
def b_m_known_25 (K2 : Int32 → Int32 → XH → Option (Int32 × XH)) (x1 : Int32) (x2 : Int32) (y0 : Int32) (h : XH) : Option (Int32 × XH) := (b_m_known_29 K2 100000 x1 x2 y0 0 h)
set_option maxRecDepth 20000 in
theorem kb_m_known_25 {l : Launch} {G : XG} {d : Nat} {K2 : Int32 → Int32 → XH → Option (Int32 × XH)} {x1 : Int32} {x2 : Int32} {y0 : Int32} {h : XH} {r : Int32 × XH} (hK2 : ∀ (x1 : Int32) (x2 : Int32) (h : XH), LY h → K2 x1 x2 h = some r → XR l G xEX12_known d (2, [some (.ref 1262), some (.int x1), some (.int x2), none, none], [], h) (fun C => ∃ v, xRet xEX12_known C v ∧ (C.2.2.2 = r.2 ∧ v = some (.int r.1)) ∧ LY r.2)) (L0 : LY h) (hf : b_m_known_25 K2 x1 x2 y0 h = some r) : XR l G xEX12_known d (25, [some (.ref 1262), some (.int x1), some (.int x2), none, none], [(.int y0)], h) (fun C => ∃ v, xRet xEX12_known C v ∧ (C.2.2.2 = r.2 ∧ v = some (.int r.1)) ∧ LY r.2) := by
  unfold b_m_known_25 at hf
  refine XS.go (s_istoren rfl rfl (Nat.le_of_ble_eq_true rfl)) ?_
  refine XS.go (s_iconst (v := 0) rfl rfl) ?_
  refine XS.go (s_istore rfl (Nat.le_of_ble_eq_true rfl)) ?_
  exact XR.forget (L2 := [some (.ref 1262), some (.int x1), some (.int x2), some (.int y0), some (.int 0)]) ⟨rfl, ⟨rfl, ⟨rfl, ⟨rfl, ⟨rfl, trivial⟩⟩⟩⟩⟩ (kb_m_known_29 hK2 L0 hf)
def s_m_known_2 (K2 : Int32 → Int32 → XH → Option (Int32 × XH)) (x1 : Int32) (x2 : Int32) (h : XH) : Option (Int32 × XH) := (if (hi h 1262 64) ≤ x2 then (some (0, h)) else (if 0 ≤ x2 ∧ x2 < nI 300 then (if ¬ (hi h 1305 (Int32.toNatClampNeg x2)) = x1 then (b_m_known_25 K2 x1 x2 0 h) else (b_m_known_25 K2 x1 x2 1 h)) else none))
set_option maxRecDepth 20000 in
theorem ks_m_known_2 {l : Launch} {G : XG} {d : Nat} {K2 : Int32 → Int32 → XH → Option (Int32 × XH)} {x1 : Int32} {x2 : Int32} {h : XH} {r : Int32 × XH} (hK2 : ∀ (x1 : Int32) (x2 : Int32) (h : XH), LY h → K2 x1 x2 h = some r → XR l G xEX12_known d (2, [some (.ref 1262), some (.int x1), some (.int x2), none, none], [], h) (fun C => ∃ v, xRet xEX12_known C v ∧ (C.2.2.2 = r.2 ∧ v = some (.int r.1)) ∧ LY r.2)) (L0 : LY h) (hf : s_m_known_2 K2 x1 x2 h = some r) : XR l G xEX12_known d (2, [some (.ref 1262), some (.int x1), some (.int x2), none, none], [], h) (fun C => ∃ v, xRet xEX12_known C v ∧ (C.2.2.2 = r.2 ∧ v = some (.int r.1)) ∧ LY r.2) := by
  unfold s_m_known_2 at hf
  refine XS.go (s_iloadn rfl rfl rfl) ?_
  refine XS.go (s_aloadn rfl rfl rfl) ?_
  refine XS.go (s_getie rfl xf12_391 (LY.lt L0 (by decide)) (LY.k1262 L0) (by decide) rfl rfl) ?_
  refine r_icmp_ge (tgt := 94) rfl rfl (fun qc9 => ?_) (fun qc9 => ?_)
  · rw [if_pos qc9] at hf
    refine XS.go (s_iconst (v := 0) rfl rfl) ?_
    cases hf
    exact XR.reti rfl rfl (fun hret => ⟨_, hret, ⟨rfl, rfl⟩, L0⟩)
  · rw [if_neg qc9] at hf
    refine XS.go (s_aloadn rfl rfl rfl) ?_
    refine XS.go (s_getr rfl xf12_137 (LY.lt L0 (by decide)) (LY.k1262 L0) (by decide) rfl (LY.r1262_66 L0)) ?_
    refine XS.go (s_iloadn rfl rfl rfl) ?_
    by_cases qk10 : 0 ≤ x2 ∧ x2 < nI 300
    rotate_left
    · rw [if_neg qk10] at hf; cases hf
    rw [if_pos qk10] at hf
    refine XS.go (s_ialde rfl (LY.lt L0 (by decide)) (LY.k1305 L0) (inLit (LY.n1305 L0) qk10.1 qk10.2 (by decide)) rfl) ?_
    refine XS.go (s_iloadn rfl rfl rfl) ?_
    refine r_icmp_ne (tgt := 24) rfl rfl (fun qc11 => ?_) (fun qc11 => ?_)
    · rw [if_pos qc11] at hf
      refine XS.go (s_iconst (v := 0) rfl rfl) ?_
      exact XR.forget (L2 := [some (.ref 1262), some (.int x1), some (.int x2), none, none]) ⟨rfl, ⟨rfl, ⟨rfl, trivial⟩⟩⟩ (kb_m_known_25 hK2 L0 hf)
    · rw [if_neg qc11] at hf
      refine XS.go (s_iconst (v := 1) rfl rfl) ?_
      refine XS.go (s_goto (tgt := 25) rfl rfl) ?_
      exact XR.forget (L2 := [some (.ref 1262), some (.int x1), some (.int x2), none, none]) ⟨rfl, ⟨rfl, ⟨rfl, trivial⟩⟩⟩ (kb_m_known_25 hK2 L0 hf)
def b_m_known_2 : Nat → Int32 → Int32 → XH → Option (Int32 × XH)
  | 0, _, _, _ => none
  | n + 1, x1, x2, h => s_m_known_2 (b_m_known_2 n) x1 x2 h
theorem kb_m_known_2 {l : Launch} {G : XG} {d : Nat} {n : Nat} {x1 : Int32} {x2 : Int32} {h : XH} {r : Int32 × XH} (L0 : LY h) (hf : b_m_known_2 n x1 x2 h = some r) : XR l G xEX12_known d (2, [some (.ref 1262), some (.int x1), some (.int x2), none, none], [], h) (fun C => ∃ v, xRet xEX12_known C v ∧ (C.2.2.2 = r.2 ∧ v = some (.int r.1)) ∧ LY r.2) := by
  induction n generalizing x1 x2 h with
  | zero => cases hf
  | succ n ih => exact ks_m_known_2 (fun x1 x2 h L0 hf => ih (h := h) (x1 := x1) (x2 := x2) L0 hf) L0 hf
def f_m_known (a0 : Int32) (h : XH) : Option (Int32 × XH) := (b_m_known_2 100000 a0 0 h)
set_option maxRecDepth 20000 in
theorem kf_m_known {l : Launch} {G : XG} {d : Nat} {a0 : Int32} {h : XH} {r : Int32 × XH} (L0 : LY h) (hf : f_m_known a0 h = some r) : XC l G xEX12_known d [.ref 1262, .int a0] h (fun v h2 => (h2 = r.2 ∧ v = some (.int r.1)) ∧ LY r.2) := by
  refine XC.virt xvX12_known (Nat.le_of_ble_eq_true rfl) ?_
  unfold f_m_known at hf
  refine XS.go (s_iconst (v := 0) rfl rfl) ?_
  refine XS.go (s_istoren rfl rfl (Nat.le_of_ble_eq_true rfl)) ?_
  exact XR.forget (L2 := [some (.ref 1262), some (.int a0), some (.int 0), none, none]) ⟨rfl, ⟨rfl, ⟨rfl, trivial⟩⟩⟩ (kb_m_known_2 L0 hf)
def f_m_two (a0 : Int32) (a1 : Int32) (h : XH) : Option (Unit × XH) := (if 0 ≤ a0 ∧ a0 < nI 68 then (if 0 ≤ (a0 + 1) ∧ (a0 + 1) < nI 68 then (some ((), (hsi (hsi h 1309 (Int32.toNatClampNeg a0) (a1 &&& 255)) 1309 (Int32.toNatClampNeg (a0 + 1)) (a1 >>> (8 &&& 31))))) else none) else none)
set_option maxRecDepth 20000 in
theorem kf_m_two {l : Launch} {G : XG} {d : Nat} {a0 : Int32} {a1 : Int32} {h : XH} {r : Unit × XH} (L0 : LY h) (hf : f_m_two a0 a1 h = some r) : XC l G xEX12_two d [.ref 1262, .int a0, .int a1] h (fun v h2 => (h2 = r.2 ∧ v = none) ∧ LY r.2) := by
  refine XC.virt xvX12_two (Nat.le_of_ble_eq_true rfl) ?_
  unfold f_m_two at hf
  refine XS.go (s_aloadn rfl rfl rfl) ?_
  refine XS.go (s_getr rfl xf12_154 (LY.lt L0 (by decide)) (LY.k1262 L0) (by decide) rfl (LY.r1262_73 L0)) ?_
  refine XS.go (s_iloadn rfl rfl rfl) ?_
  refine XS.go (s_iloadn rfl rfl rfl) ?_
  refine XS.go (s_sipush (v := 255) rfl rfl) ?_
  refine XS.go (s_iand rfl) ?_
  by_cases qk1 : 0 ≤ a0 ∧ a0 < nI 68
  rotate_left
  · rw [if_neg qk1] at hf; cases hf
  rw [if_pos qk1] at hf
  refine XS.go (s_iast rfl (LY.lt L0 (by decide)) (LY.k1309 L0) (inLit (LY.n1309 L0) qk1.1 qk1.2 (by decide))) ?_
  refine XS.go (s_aloadn rfl rfl rfl) ?_
  refine XS.go (s_getr rfl xf12_154 (LY.lt (by simp only [LY_si, LY_sj]; exact L0) (by decide)) (LY.k1262 (by simp only [LY_si, LY_sj]; exact L0)) (by decide) rfl (LY.r1262_73 (by simp only [LY_si, LY_sj]; exact L0))) ?_
  refine XS.go (s_iloadn rfl rfl rfl) ?_
  refine XS.go (s_iconst (v := 1) rfl rfl) ?_
  refine XS.go (s_iadd rfl) ?_
  refine XS.go (s_iloadn rfl rfl rfl) ?_
  refine XS.go (s_bipush (v := 8) rfl rfl) ?_
  refine XS.go (s_ishr rfl) ?_
  by_cases qk2 : 0 ≤ (a0 + 1) ∧ (a0 + 1) < nI 68
  rotate_left
  · rw [if_neg qk2] at hf; cases hf
  rw [if_pos qk2] at hf
  refine XS.go (s_iast rfl (LY.lt (by simp only [LY_si, LY_sj]; exact L0) (by decide)) (LY.k1309 (by simp only [LY_si, LY_sj]; exact L0)) (inLit (LY.n1309 (by simp only [LY_si, LY_sj]; exact L0)) qk2.1 qk2.2 (by decide))) ?_
  cases hf
  exact XR.retv rfl rfl (fun hret => ⟨_, hret, ⟨rfl, rfl⟩, (by simp only [LY_si, LY_sj]; exact L0)⟩)
def b_m_ready_312 (x6 : Int32) (h : XH) : Option (Int32 × XH) := (some (x6, (hsi h 1262 67 (-1))))
set_option maxRecDepth 20000 in
theorem kb_m_ready_312 {l : Launch} {G : XG} {d : Nat} {x6 : Int32} {h : XH} {r : Int32 × XH} (L0 : LY h) (hf : b_m_ready_312 x6 h = some r) : XR l G xEX12_ready (d + 1) (312, [some (.ref 1262), none, none, none, none, none, some (.int x6), none], [], h) (fun C => ∃ v, xRet xEX12_ready C v ∧ (C.2.2.2 = r.2 ∧ v = some (.int r.1)) ∧ LY r.2) := by
  unfold b_m_ready_312 at hf
  refine XS.go (s_aloadn rfl rfl rfl) ?_
  refine XS.go (s_iconst (v := (-1)) rfl rfl) ?_
  refine XS.go (s_puti rfl xf12_140 (LY.lt L0 (by decide)) (LY.k1262 L0) (by decide) rfl (Or.inl rfl)) ?_
  refine XS.go (s_iload rfl rfl) ?_
  cases hf
  exact XR.reti rfl rfl (fun hret => ⟨_, hret, ⟨rfl, rfl⟩, (by simp only [LY_si, LY_sj]; exact L0)⟩)
def s_m_ready_255 (K255 : Int32 → Int32 → Int32 → XH → Option (Int32 × XH)) (x3 : Int32) (x6 : Int32) (x7 : Int32) (h : XH) : Option (Int32 × XH) := (if x7 < 0 then (if 0 ≤ (hi h 1262 64) ∧ (hi h 1262 64) < nI 300 then (b_m_ready_312 x6 (hsi (hsi (hsi h 1304 (Int32.toNatClampNeg (hi h 1262 64)) (hi h 1262 57)) 1305 (Int32.toNatClampNeg (hi h 1262 64)) x3) 1262 64 ((hi h 1262 64) + 1))) else none) else (if 0 ≤ x7 ∧ x7 < nI 68 then (match f_m_ahead (Int32.toInt64 (hi h 1309 (Int32.toNatClampNeg x7))) 1 h with | none => none | some r4 => (K255 x3 x6 (x7 + (-1)) r4.2)) else none))
set_option maxRecDepth 20000 in
theorem ks_m_ready_255 {l : Launch} {G : XG} {d : Nat} {K255 : Int32 → Int32 → Int32 → XH → Option (Int32 × XH)} {x3 : Int32} {x6 : Int32} {x7 : Int32} {h : XH} {r : Int32 × XH} (hK255 : ∀ (x3 : Int32) (x6 : Int32) (x7 : Int32) (h : XH), LY h → K255 x3 x6 x7 h = some r → XR l G xEX12_ready (d + 1) (255, [some (.ref 1262), none, none, some (.int x3), none, none, some (.int x6), some (.int x7)], [], h) (fun C => ∃ v, xRet xEX12_ready C v ∧ (C.2.2.2 = r.2 ∧ v = some (.int r.1)) ∧ LY r.2)) (L0 : LY h) (hf : s_m_ready_255 K255 x3 x6 x7 h = some r) : XR l G xEX12_ready (d + 1) (255, [some (.ref 1262), none, none, some (.int x3), none, none, some (.int x6), some (.int x7)], [], h) (fun C => ∃ v, xRet xEX12_ready C v ∧ (C.2.2.2 = r.2 ∧ v = some (.int r.1)) ∧ LY r.2) := by
  unfold s_m_ready_255 at hf
  refine XS.go (s_iload rfl rfl) ?_
  refine r_if_lt (tgt := 279) rfl rfl (fun qc1 => ?_) (fun qc1 => ?_)
  · rw [if_pos qc1] at hf
    refine XS.go (s_aloadn rfl rfl rfl) ?_
    refine XS.go (s_getr rfl xf12_134 (LY.lt L0 (by decide)) (LY.k1262 L0) (by decide) rfl (LY.r1262_65 L0)) ?_
    refine XS.go (s_aloadn rfl rfl rfl) ?_
    refine XS.go (s_getie rfl xf12_391 (LY.lt L0 (by decide)) (LY.k1262 L0) (by decide) rfl rfl) ?_
    refine XS.go (s_aloadn rfl rfl rfl) ?_
    refine XS.go (s_getie rfl xf12_382 (LY.lt L0 (by decide)) (LY.k1262 L0) (by decide) rfl rfl) ?_
    by_cases qk2 : 0 ≤ (hi h 1262 64) ∧ (hi h 1262 64) < nI 300
    rotate_left
    · rw [if_neg qk2] at hf; cases hf
    rw [if_pos qk2] at hf
    refine XS.go (s_iast rfl (LY.lt L0 (by decide)) (LY.k1304 L0) (inLit (LY.n1304 L0) qk2.1 qk2.2 (by decide))) ?_
    refine XS.go (s_aloadn rfl rfl rfl) ?_
    refine XS.go (s_getr rfl xf12_137 (LY.lt (by simp only [LY_si, LY_sj]; exact L0) (by decide)) (LY.k1262 (by simp only [LY_si, LY_sj]; exact L0)) (by decide) rfl (LY.r1262_66 (by simp only [LY_si, LY_sj]; exact L0))) ?_
    refine XS.go (s_aloadn rfl rfl rfl) ?_
    refine XS.go (s_getie rfl xf12_391 (LY.lt (by simp only [LY_si, LY_sj]; exact L0) (by decide)) (LY.k1262 (by simp only [LY_si, LY_sj]; exact L0)) (by decide) rfl (hi_hsi_na (by decide))) ?_
    refine XS.go (s_iloadn rfl rfl rfl) ?_
    refine XS.go (s_iast rfl (LY.lt (by simp only [LY_si, LY_sj]; exact L0) (by decide)) (LY.k1305 (by simp only [LY_si, LY_sj]; exact L0)) (inLit (LY.n1305 (by simp only [LY_si, LY_sj]; exact L0)) qk2.1 qk2.2 (by decide))) ?_
    refine XS.go (s_aloadn rfl rfl rfl) ?_
    refine XS.go (s_dup rfl rfl) ?_
    refine XS.go (s_getie rfl xf12_391 (LY.lt (by simp only [LY_si, LY_sj]; exact L0) (by decide)) (LY.k1262 (by simp only [LY_si, LY_sj]; exact L0)) (by decide) rfl ((hi_hsi_na (by decide)).trans (hi_hsi_na (by decide)))) ?_
    refine XS.go (s_iconst (v := 1) rfl rfl) ?_
    refine XS.go (s_iadd rfl) ?_
    refine XS.go (s_puti rfl xf12_391 (LY.lt (by simp only [LY_si, LY_sj]; exact L0) (by decide)) (LY.k1262 (by simp only [LY_si, LY_sj]; exact L0)) (by decide) rfl (Or.inl rfl)) ?_
    exact XR.forget (L2 := [some (.ref 1262), none, none, none, none, none, some (.int x6), none]) ⟨rfl, ⟨rfl, trivial⟩⟩ (kb_m_ready_312 (by simp only [LY_si, LY_sj]; exact L0) hf)
  · rw [if_neg qc1] at hf
    refine XS.go (s_aloadn rfl rfl rfl) ?_
    refine XS.go (s_aloadn rfl rfl rfl) ?_
    refine XS.go (s_getr rfl xf12_154 (LY.lt L0 (by decide)) (LY.k1262 L0) (by decide) rfl (LY.r1262_73 L0)) ?_
    refine XS.go (s_iload rfl rfl) ?_
    by_cases qk3 : 0 ≤ x7 ∧ x7 < nI 68
    rotate_left
    · rw [if_neg qk3] at hf; cases hf
    rw [if_pos qk3] at hf
    refine XS.go (s_ialde rfl (LY.lt L0 (by decide)) (LY.k1309 L0) (inLit (LY.n1309 L0) qk3.1 qk3.2 (by decide)) rfl) ?_
    refine XS.go (s_i2l rfl) ?_
    refine XS.go (s_iconst (v := 1) rfl rfl) ?_
    rcases e5 : f_m_ahead (Int32.toInt64 (hi h 1309 (Int32.toNatClampNeg x7))) 1 h with _ | r4
    · rw [e5] at hf; cases hf
    rw [e5] at hf; dsimp only at hf
    refine r_callv rfl xvX12_ahead xm12_396 (kf_m_ahead (d := d) L0 e5) (LY.lt L0 (by decide)) (LY.k1262 L0) (by decide) rfl rfl (by omega) (by decide) (Nat.le_of_ble_eq_true rfl) ?_
    rintro _ _ ⟨⟨rfl, rfl⟩, L6⟩
    refine XS.go (s_dec rfl rfl (Nat.le_of_ble_eq_true rfl)) ?_
    refine XS.go (s_goto (tgt := 255) rfl rfl) ?_
    exact XR.forget (L2 := [some (.ref 1262), none, none, some (.int x3), none, none, some (.int x6), some (.int (x7 + (-1)))]) ⟨rfl, ⟨rfl, ⟨rfl, ⟨rfl, trivial⟩⟩⟩⟩ (hK255 x3 x6 (x7 + (-1)) _ L6 hf)
def b_m_ready_255 : Nat → Int32 → Int32 → Int32 → XH → Option (Int32 × XH)
  | 0, _, _, _, _ => none
  | n + 1, x3, x6, x7, h => s_m_ready_255 (b_m_ready_255 n) x3 x6 x7 h
theorem kb_m_ready_255 {l : Launch} {G : XG} {d : Nat} {n : Nat} {x3 : Int32} {x6 : Int32} {x7 : Int32} {h : XH} {r : Int32 × XH} (L0 : LY h) (hf : b_m_ready_255 n x3 x6 x7 h = some r) : XR l G xEX12_ready (d + 1) (255, [some (.ref 1262), none, none, some (.int x3), none, none, some (.int x6), some (.int x7)], [], h) (fun C => ∃ v, xRet xEX12_ready C v ∧ (C.2.2.2 = r.2 ∧ v = some (.int r.1)) ∧ LY r.2) := by
  induction n generalizing x3 x6 x7 h with
  | zero => cases hf
  | succ n ih => exact ks_m_ready_255 (fun x3 x6 x7 h L0 hf => ih (h := h) (x3 := x3) (x6 := x6) (x7 := x7) L0 hf) L0 hf
def b_m_ready_220 (x2 : Int32) (x3 : Int32) (x4 : Int32) (x5 : Int32) (y1 : Int32) (h : XH) : Option (Int32 × XH) := (match f_m_ahead (Int32.toInt64 (y1 - x2)) 4 h with | none => none | some r7 => (match f_m_thing 3 (-1) (hi r7.2 1262 67) r7.2 with | none => none | some r10 => (if ¬ x4 = 0 then (b_m_ready_312 r10.1 r10.2) else (match f_m_zeros x5 r10.2 with | none => none | some r14 => (b_m_ready_255 100000 x3 r10.1 (x3 - 1) r14.2)))))
set_option maxRecDepth 20000 in
theorem kb_m_ready_220 {l : Launch} {G : XG} {d : Nat} {x2 : Int32} {x3 : Int32} {x4 : Int32} {x5 : Int32} {y1 : Int32} {h : XH} {r : Int32 × XH} (L0 : LY h) (hf : b_m_ready_220 x2 x3 x4 x5 y1 h = some r) : XR l G xEX12_ready (d + 1) (220, [some (.ref 1262), none, some (.int x2), some (.int x3), some (.int x4), some (.int x5), none, none], [(.int y1), (.ref 1262)], h) (fun C => ∃ v, xRet xEX12_ready C v ∧ (C.2.2.2 = r.2 ∧ v = some (.int r.1)) ∧ LY r.2) := by
  unfold b_m_ready_220 at hf
  refine XS.go (s_iloadn rfl rfl rfl) ?_
  refine XS.go (s_isub rfl) ?_
  refine XS.go (s_i2l rfl) ?_
  refine XS.go (s_iconst (v := 4) rfl rfl) ?_
  rcases e8 : f_m_ahead (Int32.toInt64 (y1 - x2)) 4 h with _ | r7
  · rw [e8] at hf; cases hf
  rw [e8] at hf; dsimp only at hf
  refine r_callv rfl xvX12_ahead xm12_396 (kf_m_ahead (d := d) L0 e8) (LY.lt L0 (by decide)) (LY.k1262 L0) (by decide) rfl rfl (by omega) (by decide) (Nat.le_of_ble_eq_true rfl) ?_
  rintro _ _ ⟨⟨rfl, rfl⟩, L9⟩
  refine XS.go (s_aloadn rfl rfl rfl) ?_
  refine XS.go (s_iconst (v := 3) rfl rfl) ?_
  refine XS.go (s_iconst (v := (-1)) rfl rfl) ?_
  refine XS.go (s_aloadn rfl rfl rfl) ?_
  refine XS.go (s_getie rfl xf12_140 (LY.lt L9 (by decide)) (LY.k1262 L9) (by decide) rfl rfl) ?_
  rcases e11 : f_m_thing 3 (-1) (hi r7.2 1262 67) r7.2 with _ | r10
  · rw [e11] at hf; cases hf
  rw [e11] at hf; dsimp only at hf
  refine r_callv rfl xvX12_thing xm12_410 (kf_m_thing (d := d) L9 e11) (LY.lt L9 (by decide)) (LY.k1262 L9) (by decide) rfl rfl (by omega) (by decide) (Nat.le_of_ble_eq_true rfl) ?_
  rintro _ _ ⟨⟨rfl, rfl⟩, L12⟩
  refine XS.go (s_istore rfl (Nat.le_of_ble_eq_true rfl)) ?_
  refine XS.go (s_iload rfl rfl) ?_
  refine r_if_ne (tgt := 312) rfl rfl (fun qc13 => ?_) (fun qc13 => ?_)
  · rw [if_pos qc13] at hf
    exact XR.forget (L2 := [some (.ref 1262), none, none, none, none, none, some (.int r10.1), none]) ⟨rfl, ⟨rfl, trivial⟩⟩ (kb_m_ready_312 L12 hf)
  · rw [if_neg qc13] at hf
    refine XS.go (s_aloadn rfl rfl rfl) ?_
    refine XS.go (s_iload rfl rfl) ?_
    rcases e15 : f_m_zeros x5 r10.2 with _ | r14
    · rw [e15] at hf; cases hf
    rw [e15] at hf; dsimp only at hf
    refine r_callv rfl xvX12_zeros xm12_407 (kf_m_zeros (d := d) L12 e15) (LY.lt L12 (by decide)) (LY.k1262 L12) (by decide) rfl rfl (by omega) (by decide) (Nat.le_of_ble_eq_true rfl) ?_
    rintro _ _ ⟨⟨rfl, rfl⟩, L16⟩
    refine XS.go (s_iloadn rfl rfl rfl) ?_
    refine XS.go (s_iconst (v := 1) rfl rfl) ?_
    refine XS.go (s_isub rfl) ?_
    refine XS.go (s_istore rfl (Nat.le_of_ble_eq_true rfl)) ?_
    exact XR.forget (L2 := [some (.ref 1262), none, none, some (.int x3), none, none, some (.int r10.1), some (.int (x3 - 1))]) ⟨rfl, ⟨rfl, ⟨rfl, ⟨rfl, trivial⟩⟩⟩⟩ (kb_m_ready_255 L16 hf)
def b_m_ready_191 (h : XH) : Option (Int32 × XH) := (some (0, (hsi h 1262 0 2)))
set_option maxRecDepth 20000 in
theorem kb_m_ready_191 {l : Launch} {G : XG} {d : Nat} {h : XH} {r : Int32 × XH} (L0 : LY h) (hf : b_m_ready_191 h = some r) : XR l G xEX12_ready (d + 1) (191, [some (.ref 1262), none, none, none, none, none, none, none], [], h) (fun C => ∃ v, xRet xEX12_ready C v ∧ (C.2.2.2 = r.2 ∧ v = some (.int r.1)) ∧ LY r.2) := by
  unfold b_m_ready_191 at hf
  refine XS.go (s_aloadn rfl rfl rfl) ?_
  refine XS.go (s_iconst (v := 2) rfl rfl) ?_
  refine XS.go (s_puti rfl xf12_175 (LY.lt L0 (by decide)) (LY.k1262 L0) (by decide) rfl (Or.inl rfl)) ?_
  refine XS.go (s_iconst (v := 0) rfl rfl) ?_
  cases hf
  exact XR.reti rfl rfl (fun hret => ⟨_, hret, ⟨rfl, rfl⟩, (by simp only [LY_si, LY_sj]; exact L0)⟩)
def b_m_ready_185 (x1 : Int32) (x2 : Int32) (x3 : Int32) (x4 : Int32) (x5 : Int32) (y0 : Int32) (h : XH) : Option (Int32 × XH) := (if y0 ≤ 4000 then (match f_m_zeros x1 h with | none => none | some r18 => (if ¬ x4 = 0 then (b_m_ready_220 x2 x3 x4 x5 x4 r18.2) else (b_m_ready_220 x2 x3 x4 x5 ((x2 + x5) + x3) r18.2))) else (b_m_ready_191 h))
set_option maxRecDepth 20000 in
theorem kb_m_ready_185 {l : Launch} {G : XG} {d : Nat} {x1 : Int32} {x2 : Int32} {x3 : Int32} {x4 : Int32} {x5 : Int32} {y0 : Int32} {h : XH} {r : Int32 × XH} (L0 : LY h) (hf : b_m_ready_185 x1 x2 x3 x4 x5 y0 h = some r) : XR l G xEX12_ready (d + 1) (185, [some (.ref 1262), some (.int x1), some (.int x2), some (.int x3), some (.int x4), some (.int x5), none, none], [(.int y0)], h) (fun C => ∃ v, xRet xEX12_ready C v ∧ (C.2.2.2 = r.2 ∧ v = some (.int r.1)) ∧ LY r.2) := by
  unfold b_m_ready_185 at hf
  refine XS.go (s_sipush (v := 4000) rfl rfl) ?_
  refine r_icmp_le (tgt := 198) rfl rfl (fun qc17 => ?_) (fun qc17 => ?_)
  · rw [if_pos qc17] at hf
    refine XS.go (s_aloadn rfl rfl rfl) ?_
    refine XS.go (s_iloadn rfl rfl rfl) ?_
    rcases e19 : f_m_zeros x1 h with _ | r18
    · rw [e19] at hf; cases hf
    rw [e19] at hf; dsimp only at hf
    refine r_callv rfl xvX12_zeros xm12_407 (kf_m_zeros (d := d) L0 e19) (LY.lt L0 (by decide)) (LY.k1262 L0) (by decide) rfl rfl (by omega) (by decide) (Nat.le_of_ble_eq_true rfl) ?_
    rintro _ _ ⟨⟨rfl, rfl⟩, L20⟩
    refine XS.go (s_aloadn rfl rfl rfl) ?_
    refine XS.go (s_iload rfl rfl) ?_
    refine r_if_ne (tgt := 218) rfl rfl (fun qc21 => ?_) (fun qc21 => ?_)
    · rw [if_pos qc21] at hf
      refine XS.go (s_iload rfl rfl) ?_
      exact XR.forget (L2 := [some (.ref 1262), none, some (.int x2), some (.int x3), some (.int x4), some (.int x5), none, none]) ⟨rfl, ⟨rfl, ⟨rfl, ⟨rfl, ⟨rfl, trivial⟩⟩⟩⟩⟩ (kb_m_ready_220 L20 hf)
    · rw [if_neg qc21] at hf
      refine XS.go (s_iloadn rfl rfl rfl) ?_
      refine XS.go (s_iload rfl rfl) ?_
      refine XS.go (s_iadd rfl) ?_
      refine XS.go (s_iloadn rfl rfl rfl) ?_
      refine XS.go (s_iadd rfl) ?_
      refine XS.go (s_goto (tgt := 220) rfl rfl) ?_
      exact XR.forget (L2 := [some (.ref 1262), none, some (.int x2), some (.int x3), some (.int x4), some (.int x5), none, none]) ⟨rfl, ⟨rfl, ⟨rfl, ⟨rfl, ⟨rfl, trivial⟩⟩⟩⟩⟩ (kb_m_ready_220 L20 hf)
  · rw [if_neg qc17] at hf
    exact XR.forget (L2 := [some (.ref 1262), none, none, none, none, none, none, none]) ⟨rfl, trivial⟩ (kb_m_ready_191 L0 hf)
def b_m_ready_120 (K52 : Int32 → Int32 → Int32 → Int32 → XH → Option (Int32 × XH)) (x1 : Int32) (x2 : Int32) (x4 : Int32) (y0 : Int32) (h : XH) : Option (Int32 × XH) := (K52 x1 x2 y0 (x4 + 1) h)
set_option maxRecDepth 20000 in
theorem kb_m_ready_120 {l : Launch} {G : XG} {d : Nat} {K52 : Int32 → Int32 → Int32 → Int32 → XH → Option (Int32 × XH)} {x1 : Int32} {x2 : Int32} {x4 : Int32} {y0 : Int32} {h : XH} {r : Int32 × XH} (hK52 : ∀ (x1 : Int32) (x2 : Int32) (x3 : Int32) (x4 : Int32) (h : XH), LY h → K52 x1 x2 x3 x4 h = some r → XR l G xEX12_ready (d + 1) (52, [some (.ref 1262), some (.int x1), some (.int x2), some (.int x3), some (.int x4), none, none, none], [], h) (fun C => ∃ v, xRet xEX12_ready C v ∧ (C.2.2.2 = r.2 ∧ v = some (.int r.1)) ∧ LY r.2)) (L0 : LY h) (hf : b_m_ready_120 K52 x1 x2 x4 y0 h = some r) : XR l G xEX12_ready (d + 1) (120, [some (.ref 1262), some (.int x1), some (.int x2), none, some (.int x4), none, none, none], [(.int y0)], h) (fun C => ∃ v, xRet xEX12_ready C v ∧ (C.2.2.2 = r.2 ∧ v = some (.int r.1)) ∧ LY r.2) := by
  unfold b_m_ready_120 at hf
  refine XS.go (s_istoren rfl rfl (Nat.le_of_ble_eq_true rfl)) ?_
  refine XS.go (s_inc rfl rfl (Nat.le_of_ble_eq_true rfl)) ?_
  refine XS.go (s_goto (tgt := 52) rfl rfl) ?_
  exact XR.forget (L2 := [some (.ref 1262), some (.int x1), some (.int x2), some (.int y0), some (.int (x4 + 1)), none, none, none]) ⟨rfl, ⟨rfl, ⟨rfl, ⟨rfl, ⟨rfl, trivial⟩⟩⟩⟩⟩ (hK52 x1 x2 y0 (x4 + 1) _ L0 hf)
def b_m_ready_96 (K52 : Int32 → Int32 → Int32 → Int32 → XH → Option (Int32 × XH)) (x1 : Int32) (x2 : Int32) (x3 : Int32) (x4 : Int32) (y1 : Int32) (y2 : Int32) (h : XH) : Option (Int32 × XH) := (match f_m_two y1 y2 h with | none => none | some r22 => (if 0 ≤ x4 ∧ x4 < nI 32 then (if ¬ (hi r22.2 1307 (Int32.toNatClampNeg x4)) = 0 then (b_m_ready_120 K52 x1 x2 x4 (6 + (2 * x4)) r22.2) else (b_m_ready_120 K52 x1 x2 x4 x3 r22.2)) else none))
set_option maxRecDepth 20000 in
theorem kb_m_ready_96 {l : Launch} {G : XG} {d : Nat} {K52 : Int32 → Int32 → Int32 → Int32 → XH → Option (Int32 × XH)} {x1 : Int32} {x2 : Int32} {x3 : Int32} {x4 : Int32} {y1 : Int32} {y2 : Int32} {h : XH} {r : Int32 × XH} (hK52 : ∀ (x1 : Int32) (x2 : Int32) (x3 : Int32) (x4 : Int32) (h : XH), LY h → K52 x1 x2 x3 x4 h = some r → XR l G xEX12_ready (d + 1) (52, [some (.ref 1262), some (.int x1), some (.int x2), some (.int x3), some (.int x4), none, none, none], [], h) (fun C => ∃ v, xRet xEX12_ready C v ∧ (C.2.2.2 = r.2 ∧ v = some (.int r.1)) ∧ LY r.2)) (L0 : LY h) (hf : b_m_ready_96 K52 x1 x2 x3 x4 y1 y2 h = some r) : XR l G xEX12_ready (d + 1) (96, [some (.ref 1262), some (.int x1), some (.int x2), some (.int x3), some (.int x4), none, none, none], [(.int y2), (.int y1), (.ref 1262)], h) (fun C => ∃ v, xRet xEX12_ready C v ∧ (C.2.2.2 = r.2 ∧ v = some (.int r.1)) ∧ LY r.2) := by
  unfold b_m_ready_96 at hf
  rcases e23 : f_m_two y1 y2 h with _ | r22
  · rw [e23] at hf; cases hf
  rw [e23] at hf; dsimp only at hf
  refine r_callv rfl xvX12_two xm12_435 (kf_m_two (d := d) L0 e23) (LY.lt L0 (by decide)) (LY.k1262 L0) (by decide) rfl rfl (by omega) (by decide) (Nat.le_of_ble_eq_true rfl) ?_
  rintro _ _ ⟨⟨rfl, rfl⟩, L24⟩
  refine XS.go (s_aloadn rfl rfl rfl) ?_
  refine XS.go (s_getr rfl xf12_148 (LY.lt L24 (by decide)) (LY.k1262 L24) (by decide) rfl (LY.r1262_70 L24)) ?_
  refine XS.go (s_iload rfl rfl) ?_
  by_cases qk25 : 0 ≤ x4 ∧ x4 < nI 32
  rotate_left
  · rw [if_neg qk25] at hf; cases hf
  rw [if_pos qk25] at hf
  refine XS.go (s_ialde rfl (LY.lt L24 (by decide)) (LY.k1307 L24) (inLit (LY.n1307 L24) qk25.1 qk25.2 (by decide)) rfl) ?_
  refine r_if_ne (tgt := 113) rfl rfl (fun qc26 => ?_) (fun qc26 => ?_)
  · rw [if_pos qc26] at hf
    refine XS.go (s_bipush (v := 6) rfl rfl) ?_
    refine XS.go (s_iconst (v := 2) rfl rfl) ?_
    refine XS.go (s_iload rfl rfl) ?_
    refine XS.go (s_imul rfl) ?_
    refine XS.go (s_iadd rfl) ?_
    exact XR.forget (L2 := [some (.ref 1262), some (.int x1), some (.int x2), none, some (.int x4), none, none, none]) ⟨rfl, ⟨rfl, ⟨rfl, ⟨rfl, trivial⟩⟩⟩⟩ (kb_m_ready_120 hK52 L24 hf)
  · rw [if_neg qc26] at hf
    refine XS.go (s_iloadn rfl rfl rfl) ?_
    refine XS.go (s_goto (tgt := 120) rfl rfl) ?_
    exact XR.forget (L2 := [some (.ref 1262), some (.int x1), some (.int x2), none, some (.int x4), none, none, none]) ⟨rfl, ⟨rfl, ⟨rfl, ⟨rfl, trivial⟩⟩⟩⟩ (kb_m_ready_120 hK52 L24 hf)
def s_m_ready_52 (K52 : Int32 → Int32 → Int32 → Int32 → XH → Option (Int32 × XH)) (x1 : Int32) (x2 : Int32) (x3 : Int32) (x4 : Int32) (h : XH) : Option (Int32 × XH) := (if 0 ≤ (hi h 1262 67) ∧ (hi h 1262 67) < nI 16 then (if (hi h 1284 (Int32.toNatClampNeg (hi h 1262 67))) ≤ x4 then (match f_m_two 0 x3 h with | none => none | some r29 => (match f_m_two 2 (x2 - (hi r29.2 1262 68)) r29.2 with | none => none | some r32 => (match f_m_known x3 r32.2 with | none => none | some r35 => (match f_m_fill x2 x3 2 r35.2 with | none => none | some r38 => (if (hi r38.2 1262 59) = 300 then (b_m_ready_191 r38.2) else (if ¬ r35.1 = 0 then (b_m_ready_185 x1 x2 x3 r35.1 r38.1 x2 r38.2) else (b_m_ready_185 x1 x2 x3 r35.1 r38.1 ((x2 + r38.1) + x3) r38.2))))))) else (if 0 ≤ x4 ∧ x4 < nI 32 then (if ¬ (hi h 1307 (Int32.toNatClampNeg x4)) = 0 then (b_m_ready_96 K52 x1 x2 x3 x4 (4 + (2 * x4)) (x2 - (hi h 1307 (Int32.toNatClampNeg x4))) h) else (b_m_ready_96 K52 x1 x2 x3 x4 (4 + (2 * x4)) 0 h)) else none)) else none)
set_option maxRecDepth 20000 in
theorem ks_m_ready_52 {l : Launch} {G : XG} {d : Nat} {K52 : Int32 → Int32 → Int32 → Int32 → XH → Option (Int32 × XH)} {x1 : Int32} {x2 : Int32} {x3 : Int32} {x4 : Int32} {h : XH} {r : Int32 × XH} (hK52 : ∀ (x1 : Int32) (x2 : Int32) (x3 : Int32) (x4 : Int32) (h : XH), LY h → K52 x1 x2 x3 x4 h = some r → XR l G xEX12_ready (d + 1) (52, [some (.ref 1262), some (.int x1), some (.int x2), some (.int x3), some (.int x4), none, none, none], [], h) (fun C => ∃ v, xRet xEX12_ready C v ∧ (C.2.2.2 = r.2 ∧ v = some (.int r.1)) ∧ LY r.2)) (L0 : LY h) (hf : s_m_ready_52 K52 x1 x2 x3 x4 h = some r) : XR l G xEX12_ready (d + 1) (52, [some (.ref 1262), some (.int x1), some (.int x2), some (.int x3), some (.int x4), none, none, none], [], h) (fun C => ∃ v, xRet xEX12_ready C v ∧ (C.2.2.2 = r.2 ∧ v = some (.int r.1)) ∧ LY r.2) := by
  unfold s_m_ready_52 at hf
  refine XS.go (s_iload rfl rfl) ?_
  refine XS.go (s_aloadn rfl rfl rfl) ?_
  refine XS.go (s_getr rfl xf12_73 (LY.lt L0 (by decide)) (LY.k1262 L0) (by decide) rfl (LY.r1262_33 L0)) ?_
  refine XS.go (s_aloadn rfl rfl rfl) ?_
  refine XS.go (s_getie rfl xf12_140 (LY.lt L0 (by decide)) (LY.k1262 L0) (by decide) rfl rfl) ?_
  by_cases qk27 : 0 ≤ (hi h 1262 67) ∧ (hi h 1262 67) < nI 16
  rotate_left
  · rw [if_neg qk27] at hf; cases hf
  rw [if_pos qk27] at hf
  refine XS.go (s_ialde rfl (LY.lt L0 (by decide)) (LY.k1284 L0) (inLit (LY.n1284 L0) qk27.1 qk27.2 (by decide)) rfl) ?_
  refine r_icmp_ge (tgt := 127) rfl rfl (fun qc28 => ?_) (fun qc28 => ?_)
  · rw [if_pos qc28] at hf
    refine XS.go (s_aloadn rfl rfl rfl) ?_
    refine XS.go (s_iconst (v := 0) rfl rfl) ?_
    refine XS.go (s_iloadn rfl rfl rfl) ?_
    rcases e30 : f_m_two 0 x3 h with _ | r29
    · rw [e30] at hf; cases hf
    rw [e30] at hf; dsimp only at hf
    refine r_callv rfl xvX12_two xm12_435 (kf_m_two (d := d) L0 e30) (LY.lt L0 (by decide)) (LY.k1262 L0) (by decide) rfl rfl (by omega) (by decide) (Nat.le_of_ble_eq_true rfl) ?_
    rintro _ _ ⟨⟨rfl, rfl⟩, L31⟩
    refine XS.go (s_aloadn rfl rfl rfl) ?_
    refine XS.go (s_iconst (v := 2) rfl rfl) ?_
    refine XS.go (s_iloadn rfl rfl rfl) ?_
    refine XS.go (s_aloadn rfl rfl rfl) ?_
    refine XS.go (s_getie rfl xf12_426 (LY.lt L31 (by decide)) (LY.k1262 L31) (by decide) rfl rfl) ?_
    refine XS.go (s_isub rfl) ?_
    rcases e33 : f_m_two 2 (x2 - (hi r29.2 1262 68)) r29.2 with _ | r32
    · rw [e33] at hf; cases hf
    rw [e33] at hf; dsimp only at hf
    refine r_callv rfl xvX12_two xm12_435 (kf_m_two (d := d) L31 e33) (LY.lt L31 (by decide)) (LY.k1262 L31) (by decide) rfl rfl (by omega) (by decide) (Nat.le_of_ble_eq_true rfl) ?_
    rintro _ _ ⟨⟨rfl, rfl⟩, L34⟩
    refine XS.go (s_aloadn rfl rfl rfl) ?_
    refine XS.go (s_iloadn rfl rfl rfl) ?_
    rcases e36 : f_m_known x3 r32.2 with _ | r35
    · rw [e36] at hf; cases hf
    rw [e36] at hf; dsimp only at hf
    refine r_callv rfl xvX12_known xm12_438 (kf_m_known (d := d) L34 e36) (LY.lt L34 (by decide)) (LY.k1262 L34) (by decide) rfl rfl (by omega) (by decide) (Nat.le_of_ble_eq_true rfl) ?_
    rintro _ _ ⟨⟨rfl, rfl⟩, L37⟩
    refine XS.go (s_istore rfl (Nat.le_of_ble_eq_true rfl)) ?_
    refine XS.go (s_aloadn rfl rfl rfl) ?_
    refine XS.go (s_iloadn rfl rfl rfl) ?_
    refine XS.go (s_iloadn rfl rfl rfl) ?_
    refine XS.go (s_iconst (v := 2) rfl rfl) ?_
    rcases e39 : f_m_fill x2 x3 2 r35.2 with _ | r38
    · rw [e39] at hf; cases hf
    rw [e39] at hf; dsimp only at hf
    refine r_callv rfl xvX12_fill xm12_400 (kf_m_fill (d := d) L37 e39) (LY.lt L37 (by decide)) (LY.k1262 L37) (by decide) rfl rfl (by omega) (by decide) (Nat.le_of_ble_eq_true rfl) ?_
    rintro _ _ ⟨⟨rfl, rfl⟩, L40⟩
    refine XS.go (s_istore rfl (Nat.le_of_ble_eq_true rfl)) ?_
    refine XS.go (s_aloadn rfl rfl rfl) ?_
    refine XS.go (s_getie rfl xf12_388 (LY.lt L40 (by decide)) (LY.k1262 L40) (by decide) rfl rfl) ?_
    refine XS.go (s_sipush (v := 300) rfl rfl) ?_
    refine r_icmp_eq (tgt := 191) rfl rfl (fun qc41 => ?_) (fun qc41 => ?_)
    · rw [if_pos qc41] at hf
      exact XR.forget (L2 := [some (.ref 1262), none, none, none, none, none, none, none]) ⟨rfl, trivial⟩ (kb_m_ready_191 L40 hf)
    · rw [if_neg qc41] at hf
      refine XS.go (s_iload rfl rfl) ?_
      refine r_if_ne (tgt := 184) rfl rfl (fun qc42 => ?_) (fun qc42 => ?_)
      · rw [if_pos qc42] at hf
        refine XS.go (s_iloadn rfl rfl rfl) ?_
        exact XR.forget (L2 := [some (.ref 1262), some (.int x1), some (.int x2), some (.int x3), some (.int r35.1), some (.int r38.1), none, none]) ⟨rfl, ⟨rfl, ⟨rfl, ⟨rfl, ⟨rfl, ⟨rfl, trivial⟩⟩⟩⟩⟩⟩ (kb_m_ready_185 L40 hf)
      · rw [if_neg qc42] at hf
        refine XS.go (s_iloadn rfl rfl rfl) ?_
        refine XS.go (s_iload rfl rfl) ?_
        refine XS.go (s_iadd rfl) ?_
        refine XS.go (s_iloadn rfl rfl rfl) ?_
        refine XS.go (s_iadd rfl) ?_
        refine XS.go (s_goto (tgt := 185) rfl rfl) ?_
        exact XR.forget (L2 := [some (.ref 1262), some (.int x1), some (.int x2), some (.int x3), some (.int r35.1), some (.int r38.1), none, none]) ⟨rfl, ⟨rfl, ⟨rfl, ⟨rfl, ⟨rfl, ⟨rfl, trivial⟩⟩⟩⟩⟩⟩ (kb_m_ready_185 L40 hf)
  · rw [if_neg qc28] at hf
    refine XS.go (s_aloadn rfl rfl rfl) ?_
    refine XS.go (s_iconst (v := 4) rfl rfl) ?_
    refine XS.go (s_iconst (v := 2) rfl rfl) ?_
    refine XS.go (s_iload rfl rfl) ?_
    refine XS.go (s_imul rfl) ?_
    refine XS.go (s_iadd rfl) ?_
    refine XS.go (s_aloadn rfl rfl rfl) ?_
    refine XS.go (s_getr rfl xf12_148 (LY.lt L0 (by decide)) (LY.k1262 L0) (by decide) rfl (LY.r1262_70 L0)) ?_
    refine XS.go (s_iload rfl rfl) ?_
    by_cases qk43 : 0 ≤ x4 ∧ x4 < nI 32
    rotate_left
    · rw [if_neg qk43] at hf; cases hf
    rw [if_pos qk43] at hf
    refine XS.go (s_ialde rfl (LY.lt L0 (by decide)) (LY.k1307 L0) (inLit (LY.n1307 L0) qk43.1 qk43.2 (by decide)) rfl) ?_
    refine r_if_ne (tgt := 87) rfl rfl (fun qc44 => ?_) (fun qc44 => ?_)
    · rw [if_pos qc44] at hf
      refine XS.go (s_iloadn rfl rfl rfl) ?_
      refine XS.go (s_aloadn rfl rfl rfl) ?_
      refine XS.go (s_getr rfl xf12_148 (LY.lt L0 (by decide)) (LY.k1262 L0) (by decide) rfl (LY.r1262_70 L0)) ?_
      refine XS.go (s_iload rfl rfl) ?_
      refine XS.go (s_ialde rfl (LY.lt L0 (by decide)) (LY.k1307 L0) (inLit (LY.n1307 L0) qk43.1 qk43.2 (by decide)) rfl) ?_
      refine XS.go (s_isub rfl) ?_
      exact XR.forget (L2 := [some (.ref 1262), some (.int x1), some (.int x2), some (.int x3), some (.int x4), none, none, none]) ⟨rfl, ⟨rfl, ⟨rfl, ⟨rfl, ⟨rfl, trivial⟩⟩⟩⟩⟩ (kb_m_ready_96 hK52 L0 hf)
    · rw [if_neg qc44] at hf
      refine XS.go (s_iconst (v := 0) rfl rfl) ?_
      refine XS.go (s_goto (tgt := 96) rfl rfl) ?_
      exact XR.forget (L2 := [some (.ref 1262), some (.int x1), some (.int x2), some (.int x3), some (.int x4), none, none, none]) ⟨rfl, ⟨rfl, ⟨rfl, ⟨rfl, ⟨rfl, trivial⟩⟩⟩⟩⟩ (kb_m_ready_96 hK52 L0 hf)
def b_m_ready_52 : Nat → Int32 → Int32 → Int32 → Int32 → XH → Option (Int32 × XH)
  | 0, _, _, _, _, _ => none
  | n + 1, x1, x2, x3, x4, h => s_m_ready_52 (b_m_ready_52 n) x1 x2 x3 x4 h
theorem kb_m_ready_52 {l : Launch} {G : XG} {d : Nat} {n : Nat} {x1 : Int32} {x2 : Int32} {x3 : Int32} {x4 : Int32} {h : XH} {r : Int32 × XH} (L0 : LY h) (hf : b_m_ready_52 n x1 x2 x3 x4 h = some r) : XR l G xEX12_ready (d + 1) (52, [some (.ref 1262), some (.int x1), some (.int x2), some (.int x3), some (.int x4), none, none, none], [], h) (fun C => ∃ v, xRet xEX12_ready C v ∧ (C.2.2.2 = r.2 ∧ v = some (.int r.1)) ∧ LY r.2) := by
  induction n generalizing x1 x2 x3 x4 h with
  | zero => cases hf
  | succ n ih => exact ks_m_ready_52 (fun x1 x2 x3 x4 h L0 hf => ih (h := h) (x1 := x1) (x2 := x2) (x3 := x3) (x4 := x4) L0 hf) L0 hf
def b_m_ready_20 (h : XH) : Option (Int32 × XH) := (some (0, (hsi h 1262 0 1)))
set_option maxRecDepth 20000 in
theorem kb_m_ready_20 {l : Launch} {G : XG} {d : Nat} {h : XH} {r : Int32 × XH} (L0 : LY h) (hf : b_m_ready_20 h = some r) : XR l G xEX12_ready (d + 1) (20, [some (.ref 1262), none, none, none, none, none, none, none], [], h) (fun C => ∃ v, xRet xEX12_ready C v ∧ (C.2.2.2 = r.2 ∧ v = some (.int r.1)) ∧ LY r.2) := by
  unfold b_m_ready_20 at hf
  refine XS.go (s_aloadn rfl rfl rfl) ?_
  refine XS.go (s_iconst (v := 1) rfl rfl) ?_
  refine XS.go (s_puti rfl xf12_175 (LY.lt L0 (by decide)) (LY.k1262 L0) (by decide) rfl (Or.inl rfl)) ?_
  refine XS.go (s_iconst (v := 0) rfl rfl) ?_
  cases hf
  exact XR.reti rfl rfl (fun hret => ⟨_, hret, ⟨rfl, rfl⟩, (by simp only [LY_si, LY_sj]; exact L0)⟩)
def f_m_ready (h : XH) : Option (Int32 × XH) := (if (hi h 1262 67) = (-1) then (b_m_ready_20 (hsi h 1262 0 0)) else (match f_m_lacks (hsi h 1262 0 0) with | none => none | some r46 => (if r46.1 = 0 then (match f_m_fill (hi r46.2 1262 57) 4 4 r46.2 with | none => none | some r50 => (b_m_ready_52 100000 r50.1 (((hi r50.2 1262 57) + r50.1) + 4) 4 0 r50.2)) else (b_m_ready_20 r46.2))))
set_option maxRecDepth 20000 in
theorem kf_m_ready {l : Launch} {G : XG} {d : Nat} {h : XH} {r : Int32 × XH} (L0 : LY h) (hf : f_m_ready h = some r) : XC l G xEX12_ready (d + 1) [.ref 1262] h (fun v h2 => (h2 = r.2 ∧ v = some (.int r.1)) ∧ LY r.2) := by
  refine XC.virt xvX12_ready (Nat.le_of_ble_eq_true rfl) ?_
  unfold f_m_ready at hf
  refine XS.go (s_aloadn rfl rfl rfl) ?_
  refine XS.go (s_iconst (v := 0) rfl rfl) ?_
  refine XS.go (s_puti rfl xf12_175 (LY.lt L0 (by decide)) (LY.k1262 L0) (by decide) rfl (Or.inl rfl)) ?_
  refine XS.go (s_aloadn rfl rfl rfl) ?_
  refine XS.go (s_getie rfl xf12_140 (LY.lt (by simp only [LY_si, LY_sj]; exact L0) (by decide)) (LY.k1262 (by simp only [LY_si, LY_sj]; exact L0)) (by decide) rfl (hi_hsi_nk (by decide))) ?_
  refine XS.go (s_iconst (v := (-1)) rfl rfl) ?_
  refine r_icmp_eq (tgt := 20) rfl rfl (fun qc45 => ?_) (fun qc45 => ?_)
  · rw [if_pos qc45] at hf
    exact XR.forget (L2 := [some (.ref 1262), none, none, none, none, none, none, none]) ⟨rfl, trivial⟩ (kb_m_ready_20 (by simp only [LY_si, LY_sj]; exact L0) hf)
  · rw [if_neg qc45] at hf
    refine XS.go (s_aloadn rfl rfl rfl) ?_
    rcases e47 : f_m_lacks (hsi h 1262 0 0) with _ | r46
    · rw [e47] at hf; cases hf
    rw [e47] at hf; dsimp only at hf
    refine r_callv rfl xvX12_lacks xm12_432 (kf_m_lacks (d := d) (by simp only [LY_si, LY_sj]; exact L0) e47) (LY.lt (by simp only [LY_si, LY_sj]; exact L0) (by decide)) (LY.k1262 (by simp only [LY_si, LY_sj]; exact L0)) (by decide) rfl rfl (by omega) (by decide) (Nat.le_of_ble_eq_true rfl) ?_
    rintro _ _ ⟨⟨rfl, rfl⟩, L48⟩
    refine r_if_eq (tgt := 27) rfl rfl (fun qc49 => ?_) (fun qc49 => ?_)
    · rw [if_pos qc49] at hf
      refine XS.go (s_aloadn rfl rfl rfl) ?_
      refine XS.go (s_aloadn rfl rfl rfl) ?_
      refine XS.go (s_getie rfl xf12_382 (LY.lt L48 (by decide)) (LY.k1262 L48) (by decide) rfl rfl) ?_
      refine XS.go (s_iconst (v := 4) rfl rfl) ?_
      refine XS.go (s_iconst (v := 4) rfl rfl) ?_
      rcases e51 : f_m_fill (hi r46.2 1262 57) 4 4 r46.2 with _ | r50
      · rw [e51] at hf; cases hf
      rw [e51] at hf; dsimp only at hf
      refine r_callv rfl xvX12_fill xm12_400 (kf_m_fill (d := d) L48 e51) (LY.lt L48 (by decide)) (LY.k1262 L48) (by decide) rfl rfl (by omega) (by decide) (Nat.le_of_ble_eq_true rfl) ?_
      rintro _ _ ⟨⟨rfl, rfl⟩, L52⟩
      refine XS.go (s_istoren rfl rfl (Nat.le_of_ble_eq_true rfl)) ?_
      refine XS.go (s_aloadn rfl rfl rfl) ?_
      refine XS.go (s_getie rfl xf12_382 (LY.lt L52 (by decide)) (LY.k1262 L52) (by decide) rfl rfl) ?_
      refine XS.go (s_iloadn rfl rfl rfl) ?_
      refine XS.go (s_iadd rfl) ?_
      refine XS.go (s_iconst (v := 4) rfl rfl) ?_
      refine XS.go (s_iadd rfl) ?_
      refine XS.go (s_istoren rfl rfl (Nat.le_of_ble_eq_true rfl)) ?_
      refine XS.go (s_iconst (v := 4) rfl rfl) ?_
      refine XS.go (s_istoren rfl rfl (Nat.le_of_ble_eq_true rfl)) ?_
      refine XS.go (s_iconst (v := 0) rfl rfl) ?_
      refine XS.go (s_istore rfl (Nat.le_of_ble_eq_true rfl)) ?_
      exact XR.forget (L2 := [some (.ref 1262), some (.int r50.1), some (.int (((hi r50.2 1262 57) + r50.1) + 4)), some (.int 4), some (.int 0), none, none, none]) ⟨rfl, ⟨rfl, ⟨rfl, ⟨rfl, ⟨rfl, trivial⟩⟩⟩⟩⟩ (kb_m_ready_52 L52 hf)
    · rw [if_neg qc49] at hf
      exact XR.forget (L2 := [some (.ref 1262), none, none, none, none, none, none, none]) ⟨rfl, trivial⟩ (kb_m_ready_20 L48 hf)
