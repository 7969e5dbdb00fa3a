/-! Methods as functions of the heap -/
def f_p_readMember (t : Nat) (a0 : Nat) (h : XH) : Option (Int32 × XH) := (if t < hz h ∧ hk h t = 7 then (Option.bind (f_p_newField t a0 h) fun r2 => (Option.elim (r2.1) (some (0, r2.2)) fun b6 => (if b6 < hz r2.2 ∧ hk r2.2 b6 = 3 then (if t < hz r2.2 ∧ hk r2.2 t = 7 then (Option.bind (f_p_awaitDefinition t b6 (hi h t 5) (hsi r2.2 b6 3 3)) fun r9 => (some (1, r9.2))) else none) else none))) else none)
set_option maxRecDepth 20000 in
theorem kf_p_readMember {l : Launch} {G : XG} {d : Nat} {t : Nat} {a0 : Nat} {h : XH} {r : Int32 × XH} (L0 : LY h) (hf : f_p_readMember t a0 h = some r) : XC l G xEX7_readMember (d + 3) [.ref t, .ref a0] h (fun v h2 => (h2 = r.2 ∧ v = some (.int r.1)) ∧ LY r.2) := by
  refine XC.virt xvX7_readMember (Nat.le_of_ble_eq_true rfl) ?_
  unfold f_p_readMember at hf
  refine XR.norm (L3 := [some (.ref t), some (.ref a0), none, none]) rfl ?_
  refine XS.go (s_aloadn rfl rfl rfl) ?_
  replace hf := xi_none hf
  obtain ⟨qk1, hf⟩ := hf
  refine XS.go (s_getie rfl xf7_26 qk1.1 qk1.2 (by decide) rfl rfl) ?_
  refine XS.go (XS.lcl (L3 := [some (.ref t), some (.ref a0), some (.int (hi h t 5)), none]) (s_istoren rfl rfl (Nat.le_of_ble_eq_true rfl)) rfl) ?_
  refine XS.go (s_aloadn rfl rfl rfl) ?_
  refine XS.go (s_aloadn rfl rfl rfl) ?_
  replace hf := xb_some hf
  obtain ⟨r2, e3, hf⟩ := hf
  refine r_callv rfl xvX7_newField xm7_137 (kf_p_newField (d := d) L0 e3) qk1.1 qk1.2 (by decide) rfl rfl (dl (by decide)) (by decide) (Nat.le_of_ble_eq_true rfl) ?_
  rintro _ _ ⟨⟨rfl, rfl⟩, L4⟩
  refine XS.go (XS.lcl (L3 := [some (.ref t), some (.ref a0), some (.int (hi h t 5)), some (va_rf r2.1)]) (s_astorenO rfl rfl (Nat.le_of_ble_eq_true rfl)) rfl) ?_
  refine XS.go (s_aloadnO rfl rfl rfl) ?_
  refine r_ifnonnull (tgt := 17) rfl rfl (fun qn5 => ?_) (fun b6 qn5 => ?_)
  · replace hf := xo_none hf qn5
    try rw [qn5]
    refine XS.go (s_iconst (v := 0) rfl rfl) ?_
    cases hf
    exact XR.retz rfl rfl (by decide) (fun hret => ⟨_, hret, ⟨rfl, rfl⟩, L4⟩)
  · replace hf := xo_some hf qn5
    try rw [qn5]
    refine XS.go (s_aloadn rfl rfl rfl) ?_
    refine XS.go (s_iconst (v := 3) rfl rfl) ?_
    replace hf := xi_none hf
    obtain ⟨qk7, hf⟩ := hf
    refine XS.go (s_puti rfl xf7_158 qk7.1 qk7.2 (by decide) rfl (Or.inl rfl)) ?_
    refine XS.go (s_aloadn rfl rfl rfl) ?_
    refine XS.go (s_aloadn rfl rfl rfl) ?_
    refine XS.go (s_iloadn rfl rfl rfl) ?_
    replace hf := xi_none hf
    obtain ⟨qk8, hf⟩ := hf
    replace hf := xb_some hf
    obtain ⟨r9, e10, hf⟩ := hf
    refine r_callv rfl xvX7_awaitDefinition xm7_219 (kf_p_awaitDefinition (d := d) (by simp only [LY_si, LY_sj]; exact L4) e10) (show t < hz _ by simp only [hz_hsi, hk_hsi, hz_hsj, hk_hsj]; exact qk8.1) (by simp only [hz_hsi, hk_hsi, hz_hsj, hk_hsj]; exact qk8.2) (by decide) rfl rfl (dl0 (by decide)) (by decide) (Nat.le_of_ble_eq_true rfl) ?_
    rintro _ _ ⟨⟨rfl, rfl⟩, L11⟩
    refine XS.go (s_iconst (v := 1) rfl rfl) ?_
    cases hf
    exact XR.retz rfl rfl (by decide) (fun hret => ⟨_, hret, ⟨rfl, rfl⟩, L11⟩)
def b_p_readUnion_61 (x0 : Nat) (h : XH) : Option (Int32 × XH) := (if x0 < hz h ∧ hk h x0 = 7 then (Option.bind (f_p_expect x0 125 h) fun r2 => (if r2.1 = 0 ∨ r2.1 = 1 then (some (r2.1, r2.2)) else none)) else none)
set_option maxRecDepth 20000 in
theorem kb_p_readUnion_61 {l : Launch} {G : XG} {d : Nat} {x0 : Nat} {h : XH} {r : Int32 × XH} (L0 : LY h) (hf : b_p_readUnion_61 x0 h = some r) : XR l G xEX7_readUnion (d + 4) (61, [some (.ref x0), none, none], [], h) (fun C => ∃ v, xRet xEX7_readUnion C v ∧ (C.2.2.2 = r.2 ∧ v = some (.int r.1)) ∧ LY r.2) := by
  unfold b_p_readUnion_61 at hf
  refine XS.go (s_aloadn rfl rfl rfl) ?_
  refine XS.go (s_bipush (v := 125) rfl rfl) ?_
  replace hf := xi_none hf
  obtain ⟨qk1, hf⟩ := hf
  replace hf := xb_some hf
  obtain ⟨r2, e3, hf⟩ := hf
  refine r_callv rfl xvX7_expect xm7_134 (kf_p_expect (d := d) L0 e3) qk1.1 qk1.2 (by decide) rfl rfl (dl (by decide)) (by decide) (Nat.le_of_ble_eq_true rfl) ?_
  rintro _ _ ⟨⟨rfl, rfl⟩, L4⟩
  replace hf := xi_none hf
  obtain ⟨qk5, hf⟩ := hf
  cases hf
  exact XR.retz rfl rfl qk5 (fun hret => ⟨_, hret, ⟨rfl, rfl⟩, L4⟩)
def s_p_readUnion_25 (K25 : Nat → Option Nat → Int32 → XH → Option (Int32 × XH)) (x0 : Nat) (x1 : Option Nat) (x2 : Int32) (h : XH) : Option (Int32 × XH) := (if x0 < hz h ∧ hk h x0 = 7 then (if ¬ (hi h x0 6) = 44 then (b_p_readUnion_61 x0 h) else (if 4000 < x2 then (b_p_readUnion_61 x0 h) else (Option.bind (f_p_advance x0 h) fun r9 => (if x0 < hz r9.2 ∧ hk r9.2 x0 = 7 then (Option.bind (x1) fun b13 => (Option.bind (f_p_readMember x0 b13 r9.2) fun r15 => (if ¬ r15.1 = 0 then (K25 x0 (some b13) (x2 + 1) r15.2) else (some (0, r15.2))))) else none)))) else none)
set_option maxRecDepth 20000 in
theorem ks_p_readUnion_25 {l : Launch} {G : XG} {d : Nat} {K25 : Nat → Option Nat → Int32 → XH → Option (Int32 × XH)} {x0 : Nat} {x1 : Option Nat} {x2 : Int32} {h : XH} {r : Int32 × XH} (hK25 : ∀ (x0 : Nat) (x1 : Option Nat) (x2 : Int32) (h : XH), LY h → K25 x0 x1 x2 h = some r → XR l G xEX7_readUnion (d + 4) (25, [some (.ref x0), some (va_rf x1), some (.int x2)], [], h) (fun C => ∃ v, xRet xEX7_readUnion C v ∧ (C.2.2.2 = r.2 ∧ v = some (.int r.1)) ∧ LY r.2)) (L0 : LY h) (hf : s_p_readUnion_25 K25 x0 x1 x2 h = some r) : XR l G xEX7_readUnion (d + 4) (25, [some (.ref x0), some (va_rf x1), some (.int x2)], [], h) (fun C => ∃ v, xRet xEX7_readUnion C v ∧ (C.2.2.2 = r.2 ∧ v = some (.int r.1)) ∧ LY r.2) := by
  unfold s_p_readUnion_25 at hf
  refine XS.go (s_aloadn rfl rfl rfl) ?_
  replace hf := xi_none hf
  obtain ⟨qk6, hf⟩ := hf
  refine XS.go (s_getie rfl xf7_31 qk6.1 qk6.2 (by decide) rfl rfl) ?_
  refine XS.go (s_bipush (v := 44) rfl rfl) ?_
  refine r_icmp_ne (tgt := 61) rfl rfl (fun qc7 => ?_) (fun qc7 => ?_)
  · replace hf := xi_pos hf qc7
    exact XR.forget (L2 := [some (.ref x0), none, none]) ⟨rfl, trivial⟩ (kb_p_readUnion_61 L0 hf)
  · replace hf := xi_neg hf qc7
    refine XS.go (s_iloadn rfl rfl rfl) ?_
    refine XS.go (s_sipush (v := 4000) rfl rfl) ?_
    refine r_icmp_gt (tgt := 61) rfl rfl (fun qc8 => ?_) (fun qc8 => ?_)
    · replace hf := xi_pos hf qc8
      exact XR.forget (L2 := [some (.ref x0), none, none]) ⟨rfl, trivial⟩ (kb_p_readUnion_61 L0 hf)
    · replace hf := xi_neg hf qc8
      refine XS.go (s_aloadn rfl rfl rfl) ?_
      replace hf := xb_some hf
      obtain ⟨r9, e10, hf⟩ := hf
      refine r_callv rfl xvX7_advance xm7_82 (kf_p_advance (d := d) L0 e10) qk6.1 qk6.2 (by decide) rfl rfl (dl (by decide)) (by decide) (Nat.le_of_ble_eq_true rfl) ?_
      rintro _ _ ⟨⟨rfl, rfl⟩, L11⟩
      refine XS.go (s_aloadn rfl rfl rfl) ?_
      refine XS.go (s_aloadnO rfl rfl rfl) ?_
      replace hf := xi_none hf
      obtain ⟨qk12, hf⟩ := hf
      replace hf := xb_some hf
      obtain ⟨b13, qo14, hf⟩ := hf
      try rw [qo14]
      replace hf := xb_some hf
      obtain ⟨r15, e16, hf⟩ := hf
      refine r_callv rfl xvX7_readMember xm7_241 (kf_p_readMember (d := d) L11 e16) qk12.1 qk12.2 (by decide) rfl rfl (dl (by decide)) (by decide) (Nat.le_of_ble_eq_true rfl) ?_
      rintro _ _ ⟨⟨rfl, rfl⟩, L17⟩
      refine r_if_ne (tgt := 55) rfl rfl (fun qc18 => ?_) (fun qc18 => ?_)
      · replace hf := xi_pos hf qc18
        refine XS.go (XS.lcl (L3 := [some (.ref x0), some (.ref b13), some (.int (x2 + 1))]) (s_inc rfl rfl (Nat.le_of_ble_eq_true rfl)) rfl) ?_
        refine XS.go (s_goto (tgt := 25) rfl rfl) ?_
        exact XR.forget (L2 := [some (.ref x0), some (.ref b13), some (.int (x2 + 1))]) ⟨rfl, ⟨rfl, ⟨rfl, trivial⟩⟩⟩ (hK25 x0 (some b13) (x2 + 1) _ L17 hf)
      · replace hf := xi_neg hf qc18
        refine XS.go (s_iconst (v := 0) rfl rfl) ?_
        cases hf
        exact XR.retz rfl rfl (by decide) (fun hret => ⟨_, hret, ⟨rfl, rfl⟩, L17⟩)
def b_p_readUnion_25 : Nat → Nat → Option Nat → Int32 → XH → Option (Int32 × XH)
  | 0, _, _, _, _ => none
  | n + 1, x0, x1, x2, h => s_p_readUnion_25 (b_p_readUnion_25 n) x0 x1 x2 h
theorem kb_p_readUnion_25 {l : Launch} {G : XG} {d : Nat} {n : Nat} {x0 : Nat} {x1 : Option Nat} {x2 : Int32} {h : XH} {r : Int32 × XH} (L0 : LY h) (hf : b_p_readUnion_25 n x0 x1 x2 h = some r) : XR l G xEX7_readUnion (d + 4) (25, [some (.ref x0), some (va_rf x1), some (.int x2)], [], h) (fun C => ∃ v, xRet xEX7_readUnion C v ∧ (C.2.2.2 = r.2 ∧ v = some (.int r.1)) ∧ LY r.2) := by
  induction n generalizing x0 x1 x2 h with
  | zero => cases hf
  | succ n ih => exact ks_p_readUnion_25 (fun x0 x1 x2 h L0 hf => ih (h := h) (x0 := x0) (x1 := x1) (x2 := x2) L0 hf) L0 hf
def f_p_readUnion (t : Nat) (a0 : Option Nat) (h : XH) : Option (Int32 × XH) := (Option.elim (a0) (some (0, h)) fun b20 => (if t < hz h ∧ hk h t = 7 then (Option.bind (f_p_expect t 123 h) fun r22 => (if r22.1 = 0 then (some (0, r22.2)) else (if t < hz r22.2 ∧ hk r22.2 t = 7 then (Option.bind (f_p_readMember t b20 r22.2) fun r27 => (if ¬ r27.1 = 0 then (b_p_readUnion_25 100000 t (some b20) 0 r27.2) else (some (0, r27.2)))) else none))) else none))
set_option maxRecDepth 20000 in
theorem kf_p_readUnion {l : Launch} {G : XG} {d : Nat} {t : Nat} {a0 : Option Nat} {h : XH} {r : Int32 × XH} (L0 : LY h) (hf : f_p_readUnion t a0 h = some r) : XC l G xEX7_readUnion (d + 4) [.ref t, va_rf a0] h (fun v h2 => (h2 = r.2 ∧ v = some (.int r.1)) ∧ LY r.2) := by
  refine XC.virt xvX7_readUnion (by cases a0 <;> exact Nat.le_of_ble_eq_true rfl) ?_
  unfold f_p_readUnion at hf
  refine XR.norm (L3 := [some (.ref t), some (va_rf a0), none]) (by cases a0 <;> rfl) ?_
  refine XS.go (s_aloadnO rfl rfl rfl) ?_
  refine r_ifnull (tgt := 21) rfl rfl (fun qn19 => ?_) (fun b20 qn19 => ?_)
  · replace hf := xo_none hf qn19
    try rw [qn19]
    refine XS.go (s_iconst (v := 0) rfl rfl) ?_
    cases hf
    exact XR.retz rfl rfl (by decide) (fun hret => ⟨_, hret, ⟨rfl, rfl⟩, L0⟩)
  · replace hf := xo_some hf qn19
    try rw [qn19]
    refine XS.go (s_aloadn rfl rfl rfl) ?_
    refine XS.go (s_bipush (v := 123) rfl rfl) ?_
    replace hf := xi_none hf
    obtain ⟨qk21, hf⟩ := hf
    replace hf := xb_some hf
    obtain ⟨r22, e23, hf⟩ := hf
    refine r_callv rfl xvX7_expect xm7_134 (kf_p_expect (d := d) L0 e23) qk21.1 qk21.2 (by decide) rfl rfl (dl (by decide)) (by decide) (Nat.le_of_ble_eq_true rfl) ?_
    rintro _ _ ⟨⟨rfl, rfl⟩, L24⟩
    refine r_if_eq (tgt := 21) rfl rfl (fun qc25 => ?_) (fun qc25 => ?_)
    · replace hf := xi_pos hf qc25
      refine XS.go (s_iconst (v := 0) rfl rfl) ?_
      cases hf
      exact XR.retz rfl rfl (by decide) (fun hret => ⟨_, hret, ⟨rfl, rfl⟩, L24⟩)
    · replace hf := xi_neg hf qc25
      refine XS.go (s_aloadn rfl rfl rfl) ?_
      refine XS.go (s_aloadn rfl rfl rfl) ?_
      replace hf := xi_none hf
      obtain ⟨qk26, hf⟩ := hf
      replace hf := xb_some hf
      obtain ⟨r27, e28, hf⟩ := hf
      refine r_callv rfl xvX7_readMember xm7_241 (kf_p_readMember (d := d) L24 e28) qk26.1 qk26.2 (by decide) rfl rfl (dl (by decide)) (by decide) (Nat.le_of_ble_eq_true rfl) ?_
      rintro _ _ ⟨⟨rfl, rfl⟩, L29⟩
      refine r_if_ne (tgt := 23) rfl rfl (fun qc30 => ?_) (fun qc30 => ?_)
      · replace hf := xi_pos hf qc30
        refine XS.go (s_iconst (v := 0) rfl rfl) ?_
        refine XS.go (XS.lcl (L3 := [some (.ref t), some (.ref b20), some (.int 0)]) (s_istoren rfl rfl (Nat.le_of_ble_eq_true rfl)) rfl) ?_
        exact XR.forget (L2 := [some (.ref t), some (.ref b20), some (.int 0)]) ⟨rfl, ⟨rfl, ⟨rfl, trivial⟩⟩⟩ (kb_p_readUnion_25 L29 hf)
      · replace hf := xi_neg hf qc30
        refine XS.go (s_iconst (v := 0) rfl rfl) ?_
        cases hf
        exact XR.retz rfl rfl (by decide) (fun hret => ⟨_, hret, ⟨rfl, rfl⟩, L29⟩)
def b_p_readDefinition_29 (x0 : Nat) (x1 : Int32) (h : XH) : Option (Int32 × XH) := (if x0 < hz h ∧ hk h x0 = 7 then (Option.bind (f_p_advance x0 h) fun r2 => (if ¬ x1 = 6 then (if ¬ x1 = 7 then (if x0 < hz r2.2 ∧ hk r2.2 x0 = 7 then (Option.bind (hr r2.2 x0 1) fun b8 => (if b8 < hz r2.2 ∧ hk r2.2 b8 = 9 then (Option.bind (hr r2.2 b8 2) fun b11 => (Option.bind (f_p_newDefinition x0 b11 r2.2) fun r13 => (if x0 < hz r13.2 ∧ hk r13.2 x0 = 7 then (Option.bind (f_p_readUnion x0 r13.1 r13.2) fun r17 => (if r17.1 = 0 ∨ r17.1 = 1 then (some (r17.1, r17.2)) else none)) else none))) else none)) else none) else (if x0 < hz r2.2 ∧ hk r2.2 x0 = 7 then (Option.bind (hr r2.2 x0 1) fun b22 => (if b22 < hz r2.2 ∧ hk r2.2 b22 = 9 then (Option.bind (hr r2.2 b22 1) fun b25 => (Option.bind (f_p_newDefinition x0 b25 r2.2) fun r27 => (if x0 < hz r27.2 ∧ hk r27.2 x0 = 7 then (Option.bind (f_p_readTable x0 r27.1 r27.2) fun r31 => (if r31.1 = 0 ∨ r31.1 = 1 then (some (r31.1, r31.2)) else none)) else none))) else none)) else none)) else (if x0 < hz r2.2 ∧ hk r2.2 x0 = 7 then (Option.bind (hr r2.2 x0 1) fun b36 => (if b36 < hz r2.2 ∧ hk r2.2 b36 = 9 then (Option.bind (hr r2.2 b36 0) fun b39 => (Option.bind (f_p_newDefinition x0 b39 r2.2) fun r41 => (if x0 < hz r41.2 ∧ hk r41.2 x0 = 7 then (Option.bind (f_p_readStruct x0 r41.1 r41.2) fun r45 => (if r45.1 = 0 ∨ r45.1 = 1 then (some (r45.1, r45.2)) else none)) else none))) else none)) else none))) else none)
set_option maxRecDepth 20000 in
theorem kb_p_readDefinition_29 {l : Launch} {G : XG} {d : Nat} {x0 : Nat} {x1 : Int32} {h : XH} {r : Int32 × XH} (L0 : LY h) (hf : b_p_readDefinition_29 x0 x1 h = some r) : XR l G xEX7_readDefinition (d + 5) (29, [some (.ref x0), some (.int x1)], [], h) (fun C => ∃ v, xRet xEX7_readDefinition C v ∧ (C.2.2.2 = r.2 ∧ v = some (.int r.1)) ∧ LY r.2) := by
  unfold b_p_readDefinition_29 at hf
  refine XS.go (s_aloadn rfl rfl rfl) ?_
  replace hf := xi_none hf
  obtain ⟨qk1, hf⟩ := hf
  replace hf := xb_some hf
  obtain ⟨r2, e3, hf⟩ := hf
  refine r_callv rfl xvX7_advance xm7_82 (kf_p_advance (d := d) L0 e3) qk1.1 qk1.2 (by decide) rfl rfl (dl (by decide)) (by decide) (Nat.le_of_ble_eq_true rfl) ?_
  rintro _ _ ⟨⟨rfl, rfl⟩, L4⟩
  refine XS.go (s_iloadn rfl rfl rfl) ?_
  refine XS.go (s_bipush (v := 6) rfl rfl) ?_
  refine r_icmp_ne (tgt := 55) rfl rfl (fun qc5 => ?_) (fun qc5 => ?_)
  · replace hf := xi_pos hf qc5
    refine XS.go (s_iloadn rfl rfl rfl) ?_
    refine XS.go (s_bipush (v := 7) rfl rfl) ?_
    refine r_icmp_ne (tgt := 77) rfl rfl (fun qc6 => ?_) (fun qc6 => ?_)
    · replace hf := xi_pos hf qc6
      refine XS.go (s_aloadn rfl rfl rfl) ?_
      refine XS.go (s_aloadn rfl rfl rfl) ?_
      refine XS.go (s_aloadn rfl rfl rfl) ?_
      replace hf := xi_none hf
      obtain ⟨qk7, hf⟩ := hf
      replace hf := xb_some hf
      obtain ⟨b8, qr9, hf⟩ := hf
      refine XS.go (s_getr rfl xf7_44 qk7.1 qk7.2 (by decide) rfl qr9) ?_
      replace hf := xi_none hf
      obtain ⟨qk10, hf⟩ := hf
      replace hf := xb_some hf
      obtain ⟨b11, qr12, hf⟩ := hf
      refine XS.go (s_getr rfl xf7_103 qk10.1 qk10.2 (by decide) rfl qr12) ?_
      replace hf := xb_some hf
      obtain ⟨r13, e14, hf⟩ := hf
      refine r_callv rfl xvX7_newDefinition xm7_89 (kf_p_newDefinition (d := d) L4 e14) qk7.1 qk7.2 (by decide) rfl rfl (dl (by decide)) (by decide) (Nat.le_of_ble_eq_true rfl) ?_
      rintro _ _ ⟨⟨rfl, rfl⟩, L15⟩
      replace hf := xi_none hf
      obtain ⟨qk16, hf⟩ := hf
      replace hf := xb_some hf
      obtain ⟨r17, e18, hf⟩ := hf
      refine r_callv rfl xvX7_readUnion xm7_106 (kf_p_readUnion (d := d) L15 e18) qk16.1 qk16.2 (by decide) rfl rfl (dl (by decide)) (by decide) (Nat.le_of_ble_eq_true rfl) ?_
      rintro _ _ ⟨⟨rfl, rfl⟩, L19⟩
      replace hf := xi_none hf
      obtain ⟨qk20, hf⟩ := hf
      cases hf
      exact XR.retz rfl rfl qk20 (fun hret => ⟨_, hret, ⟨rfl, rfl⟩, L19⟩)
    · replace hf := xi_neg hf qc6
      refine XS.go (s_aloadn rfl rfl rfl) ?_
      refine XS.go (s_aloadn rfl rfl rfl) ?_
      refine XS.go (s_aloadn rfl rfl rfl) ?_
      replace hf := xi_none hf
      obtain ⟨qk21, hf⟩ := hf
      replace hf := xb_some hf
      obtain ⟨b22, qr23, hf⟩ := hf
      refine XS.go (s_getr rfl xf7_44 qk21.1 qk21.2 (by decide) rfl qr23) ?_
      replace hf := xi_none hf
      obtain ⟨qk24, hf⟩ := hf
      replace hf := xb_some hf
      obtain ⟨b25, qr26, hf⟩ := hf
      refine XS.go (s_getr rfl xf7_97 qk24.1 qk24.2 (by decide) rfl qr26) ?_
      replace hf := xb_some hf
      obtain ⟨r27, e28, hf⟩ := hf
      refine r_callv rfl xvX7_newDefinition xm7_89 (kf_p_newDefinition (d := d) L4 e28) qk21.1 qk21.2 (by decide) rfl rfl (dl (by decide)) (by decide) (Nat.le_of_ble_eq_true rfl) ?_
      rintro _ _ ⟨⟨rfl, rfl⟩, L29⟩
      replace hf := xi_none hf
      obtain ⟨qk30, hf⟩ := hf
      replace hf := xb_some hf
      obtain ⟨r31, e32, hf⟩ := hf
      refine r_callv rfl xvX7_readTable xm7_100 (kf_p_readTable (d := d) L29 e32) qk30.1 qk30.2 (by decide) rfl rfl (dl (by decide)) (by decide) (Nat.le_of_ble_eq_true rfl) ?_
      rintro _ _ ⟨⟨rfl, rfl⟩, L33⟩
      replace hf := xi_none hf
      obtain ⟨qk34, hf⟩ := hf
      cases hf
      exact XR.retz rfl rfl qk34 (fun hret => ⟨_, hret, ⟨rfl, rfl⟩, L33⟩)
  · replace hf := xi_neg hf qc5
    refine XS.go (s_aloadn rfl rfl rfl) ?_
    refine XS.go (s_aloadn rfl rfl rfl) ?_
    refine XS.go (s_aloadn rfl rfl rfl) ?_
    replace hf := xi_none hf
    obtain ⟨qk35, hf⟩ := hf
    replace hf := xb_some hf
    obtain ⟨b36, qr37, hf⟩ := hf
    refine XS.go (s_getr rfl xf7_44 qk35.1 qk35.2 (by decide) rfl qr37) ?_
    replace hf := xi_none hf
    obtain ⟨qk38, hf⟩ := hf
    replace hf := xb_some hf
    obtain ⟨b39, qr40, hf⟩ := hf
    refine XS.go (s_getr rfl xf7_85 qk38.1 qk38.2 (by decide) rfl qr40) ?_
    replace hf := xb_some hf
    obtain ⟨r41, e42, hf⟩ := hf
    refine r_callv rfl xvX7_newDefinition xm7_89 (kf_p_newDefinition (d := d) L4 e42) qk35.1 qk35.2 (by decide) rfl rfl (dl (by decide)) (by decide) (Nat.le_of_ble_eq_true rfl) ?_
    rintro _ _ ⟨⟨rfl, rfl⟩, L43⟩
    replace hf := xi_none hf
    obtain ⟨qk44, hf⟩ := hf
    replace hf := xb_some hf
    obtain ⟨r45, e46, hf⟩ := hf
    refine r_callv rfl xvX7_readStruct xm7_93 (kf_p_readStruct (d := d) L43 e46) qk44.1 qk44.2 (by decide) rfl rfl (dl (by decide)) (by decide) (Nat.le_of_ble_eq_true rfl) ?_
    rintro _ _ ⟨⟨rfl, rfl⟩, L47⟩
    replace hf := xi_none hf
    obtain ⟨qk48, hf⟩ := hf
    cases hf
    exact XR.retz rfl rfl qk48 (fun hret => ⟨_, hret, ⟨rfl, rfl⟩, L47⟩)
def f_p_readDefinition (t : Nat) (h : XH) : Option (Int32 × XH) := (if t < hz h ∧ hk h t = 7 then (if (hi h t 6) = 6 then (b_p_readDefinition_29 t (hi h t 6) h) else (if (hi h t 6) = 7 then (b_p_readDefinition_29 t (hi h t 6) h) else (if (hi h t 6) = 8 then (b_p_readDefinition_29 t (hi h t 6) h) else (Option.bind (f_p_fail t 2 h) fun r53 => (if r53.1 = 0 ∨ r53.1 = 1 then (some (r53.1, r53.2)) else none))))) else none)
set_option maxRecDepth 20000 in
theorem kf_p_readDefinition {l : Launch} {G : XG} {d : Nat} {t : Nat} {h : XH} {r : Int32 × XH} (L0 : LY h) (hf : f_p_readDefinition t h = some r) : XC l G xEX7_readDefinition (d + 5) [.ref t] h (fun v h2 => (h2 = r.2 ∧ v = some (.int r.1)) ∧ LY r.2) := by
  refine XC.virt xvX7_readDefinition (Nat.le_of_ble_eq_true rfl) ?_
  unfold f_p_readDefinition at hf
  refine XR.norm (L3 := [some (.ref t), none]) rfl ?_
  refine XS.go (s_aloadn rfl rfl rfl) ?_
  replace hf := xi_none hf
  obtain ⟨qk49, hf⟩ := hf
  refine XS.go (s_getie rfl xf7_31 qk49.1 qk49.2 (by decide) rfl rfl) ?_
  refine XS.go (XS.lcl (L3 := [some (.ref t), some (.int (hi h t 6))]) (s_istoren rfl rfl (Nat.le_of_ble_eq_true rfl)) rfl) ?_
  refine XS.go (s_iloadn rfl rfl rfl) ?_
  refine XS.go (s_bipush (v := 6) rfl rfl) ?_
  refine r_icmp_eq (tgt := 29) rfl rfl (fun qc50 => ?_) (fun qc50 => ?_)
  · replace hf := xi_pos hf qc50
    exact XR.forget (L2 := [some (.ref t), some (.int (hi h t 6))]) ⟨rfl, ⟨rfl, trivial⟩⟩ (kb_p_readDefinition_29 L0 hf)
  · replace hf := xi_neg hf qc50
    refine XS.go (s_iloadn rfl rfl rfl) ?_
    refine XS.go (s_bipush (v := 7) rfl rfl) ?_
    refine r_icmp_eq (tgt := 29) rfl rfl (fun qc51 => ?_) (fun qc51 => ?_)
    · replace hf := xi_pos hf qc51
      exact XR.forget (L2 := [some (.ref t), some (.int (hi h t 6))]) ⟨rfl, ⟨rfl, trivial⟩⟩ (kb_p_readDefinition_29 L0 hf)
    · replace hf := xi_neg hf qc51
      refine XS.go (s_iloadn rfl rfl rfl) ?_
      refine XS.go (s_bipush (v := 8) rfl rfl) ?_
      refine r_icmp_eq (tgt := 29) rfl rfl (fun qc52 => ?_) (fun qc52 => ?_)
      · replace hf := xi_pos hf qc52
        exact XR.forget (L2 := [some (.ref t), some (.int (hi h t 6))]) ⟨rfl, ⟨rfl, trivial⟩⟩ (kb_p_readDefinition_29 L0 hf)
      · replace hf := xi_neg hf qc52
        refine XS.go (s_aloadn rfl rfl rfl) ?_
        refine XS.go (s_iconst (v := 2) rfl rfl) ?_
        replace hf := xb_some hf
        obtain ⟨r53, e54, hf⟩ := hf
        refine r_callv rfl xvX7_fail xm7_78 (kf_p_fail (d := d) L0 e54) qk49.1 qk49.2 (by decide) rfl rfl (dl (by decide)) (by decide) (Nat.le_of_ble_eq_true rfl) ?_
        rintro _ _ ⟨⟨rfl, rfl⟩, L55⟩
        replace hf := xi_none hf
        obtain ⟨qk56, hf⟩ := hf
        cases hf
        exact XR.retz rfl rfl qk56 (fun hret => ⟨_, hret, ⟨rfl, rfl⟩, L55⟩)
def b_p_readRoot_63 (h : XH) : Option (Int32 × XH) := (some (1, h))
set_option maxRecDepth 20000 in
theorem kb_p_readRoot_63 {l : Launch} {G : XG} {d : Nat} {h : XH} {r : Int32 × XH} (L0 : LY h) (hf : b_p_readRoot_63 h = some r) : XR l G xEX7_readRoot (d + 3) (63, [none], [], h) (fun C => ∃ v, xRet xEX7_readRoot C v ∧ (C.2.2.2 = r.2 ∧ v = some (.int r.1)) ∧ LY r.2) := by
  unfold b_p_readRoot_63 at hf
  refine XS.go (s_iconst (v := 1) rfl rfl) ?_
  refine XS.go (s_goto (tgt := 68) rfl rfl) ?_
  cases hf
  exact XR.retz rfl rfl (by decide) (fun hret => ⟨_, hret, ⟨rfl, rfl⟩, L0⟩)
def f_p_readRoot (t : Nat) (h : XH) : Option (Int32 × XH) := (if t < hz h ∧ hk h t = 7 then (Option.bind (f_p_expect t 9 h) fun r2 => (if ¬ r2.1 = 0 then (if t < hz r2.2 ∧ hk r2.2 t = 7 then (Option.bind (hr r2.2 t 4) fun b7 => (if b7 < hz r2.2 ∧ hk r2.2 b7 = 3 then (Option.bind (f_p_awaitDefinition t b7 (hi r2.2 t 5) (hsi r2.2 b7 3 3)) fun r10 => (if t < hz r10.2 ∧ hk r10.2 t = 7 then (Option.bind (f_p_expect t 2 r10.2) fun r14 => (if r14.1 = 0 then (some (0, r14.2)) else (if t < hz r14.2 ∧ hk r14.2 t = 7 then (Option.bind (f_p_expect t 59 r14.2) fun r19 => (if r19.1 = 0 then (some (0, r19.2)) else (if t < hz r19.2 ∧ hk r19.2 t = 7 then (if (hi r19.2 t 6) = 0 then (b_p_readRoot_63 r19.2) else (Option.bind (f_p_fail t 2 r19.2) fun r25 => (if r25.1 = 0 then (some (0, r25.2)) else (b_p_readRoot_63 r25.2)))) else none))) else none))) else none)) else none)) else none) else (some (0, r2.2)))) else none)
set_option maxRecDepth 20000 in
theorem kf_p_readRoot {l : Launch} {G : XG} {d : Nat} {t : Nat} {h : XH} {r : Int32 × XH} (L0 : LY h) (hf : f_p_readRoot t h = some r) : XC l G xEX7_readRoot (d + 3) [.ref t] h (fun v h2 => (h2 = r.2 ∧ v = some (.int r.1)) ∧ LY r.2) := by
  refine XC.virt xvX7_readRoot (Nat.le_of_ble_eq_true rfl) ?_
  unfold f_p_readRoot at hf
  refine XR.norm (L3 := [some (.ref t)]) rfl ?_
  refine XS.go (s_aloadn rfl rfl rfl) ?_
  refine XS.go (s_bipush (v := 9) rfl rfl) ?_
  replace hf := xi_none hf
  obtain ⟨qk1, hf⟩ := hf
  replace hf := xb_some hf
  obtain ⟨r2, e3, hf⟩ := hf
  refine r_callv rfl xvX7_expect xm7_134 (kf_p_expect (d := d) L0 e3) qk1.1 qk1.2 (by decide) rfl rfl (dl (by decide)) (by decide) (Nat.le_of_ble_eq_true rfl) ?_
  rintro _ _ ⟨⟨rfl, rfl⟩, L4⟩
  refine r_if_ne (tgt := 11) rfl rfl (fun qc5 => ?_) (fun qc5 => ?_)
  · replace hf := xi_pos hf qc5
    refine XS.go (s_aloadn rfl rfl rfl) ?_
    replace hf := xi_none hf
    obtain ⟨qk6, hf⟩ := hf
    replace hf := xb_some hf
    obtain ⟨b7, qr8, hf⟩ := hf
    refine XS.go (s_getr rfl xf7_22 qk6.1 qk6.2 (by decide) rfl qr8) ?_
    refine XS.go (s_iconst (v := 3) rfl rfl) ?_
    replace hf := xi_none hf
    obtain ⟨qk9, hf⟩ := hf
    refine XS.go (s_puti rfl xf7_158 qk9.1 qk9.2 (by decide) rfl (Or.inl rfl)) ?_
    refine XS.go (s_aloadn rfl rfl rfl) ?_
    refine XS.go (s_aloadn rfl rfl rfl) ?_
    refine XS.go (s_getr rfl xf7_22 (show t < hz _ by simp only [hz_hsi, hk_hsi, hz_hsj, hk_hsj]; exact qk6.1) (by simp only [hz_hsi, hk_hsi, hz_hsj, hk_hsj]; exact qk6.2) (by decide) rfl (by simp only [hr_hsi, hr_hsj]; exact qr8)) ?_
    refine XS.go (s_aloadn rfl rfl rfl) ?_
    refine XS.go (s_getie rfl xf7_26 (show t < hz _ by simp only [hz_hsi, hk_hsi, hz_hsj, hk_hsj]; exact qk6.1) (by simp only [hz_hsi, hk_hsi, hz_hsj, hk_hsj]; exact qk6.2) (by decide) rfl (hi_hsi_nk (by decide))) ?_
    replace hf := xb_some hf
    obtain ⟨r10, e11, hf⟩ := hf
    refine r_callv rfl xvX7_awaitDefinition xm7_219 (kf_p_awaitDefinition (d := d) (by simp only [LY_si, LY_sj]; exact L4) e11) (show t < hz _ by simp only [hz_hsi, hk_hsi, hz_hsj, hk_hsj]; exact qk6.1) (by simp only [hz_hsi, hk_hsi, hz_hsj, hk_hsj]; exact qk6.2) (by decide) rfl rfl (dl0 (by decide)) (by decide) (Nat.le_of_ble_eq_true rfl) ?_
    rintro _ _ ⟨⟨rfl, rfl⟩, L12⟩
    refine XS.go (s_aloadn rfl rfl rfl) ?_
    refine XS.go (s_iconst (v := 2) rfl rfl) ?_
    replace hf := xi_none hf
    obtain ⟨qk13, hf⟩ := hf
    replace hf := xb_some hf
    obtain ⟨r14, e15, hf⟩ := hf
    refine r_callv rfl xvX7_expect xm7_134 (kf_p_expect (d := d) L12 e15) qk13.1 qk13.2 (by decide) rfl rfl (dl (by decide)) (by decide) (Nat.le_of_ble_eq_true rfl) ?_
    rintro _ _ ⟨⟨rfl, rfl⟩, L16⟩
    refine r_if_eq (tgt := 67) rfl rfl (fun qc17 => ?_) (fun qc17 => ?_)
    · replace hf := xi_pos hf qc17
      refine XS.go (s_iconst (v := 0) rfl rfl) ?_
      cases hf
      exact XR.retz rfl rfl (by decide) (fun hret => ⟨_, hret, ⟨rfl, rfl⟩, L16⟩)
    · replace hf := xi_neg hf qc17
      refine XS.go (s_aloadn rfl rfl rfl) ?_
      refine XS.go (s_bipush (v := 59) rfl rfl) ?_
      replace hf := xi_none hf
      obtain ⟨qk18, hf⟩ := hf
      replace hf := xb_some hf
      obtain ⟨r19, e20, hf⟩ := hf
      refine r_callv rfl xvX7_expect xm7_134 (kf_p_expect (d := d) L16 e20) qk18.1 qk18.2 (by decide) rfl rfl (dl (by decide)) (by decide) (Nat.le_of_ble_eq_true rfl) ?_
      rintro _ _ ⟨⟨rfl, rfl⟩, L21⟩
      refine r_if_eq (tgt := 67) rfl rfl (fun qc22 => ?_) (fun qc22 => ?_)
      · replace hf := xi_pos hf qc22
        refine XS.go (s_iconst (v := 0) rfl rfl) ?_
        cases hf
        exact XR.retz rfl rfl (by decide) (fun hret => ⟨_, hret, ⟨rfl, rfl⟩, L21⟩)
      · replace hf := xi_neg hf qc22
        refine XS.go (s_aloadn rfl rfl rfl) ?_
        replace hf := xi_none hf
        obtain ⟨qk23, hf⟩ := hf
        refine XS.go (s_getie rfl xf7_31 qk23.1 qk23.2 (by decide) rfl rfl) ?_
        refine r_if_eq (tgt := 63) rfl rfl (fun qc24 => ?_) (fun qc24 => ?_)
        · replace hf := xi_pos hf qc24
          exact XR.forget (L2 := [none]) trivial (kb_p_readRoot_63 L21 hf)
        · replace hf := xi_neg hf qc24
          refine XS.go (s_aloadn rfl rfl rfl) ?_
          refine XS.go (s_iconst (v := 2) rfl rfl) ?_
          replace hf := xb_some hf
          obtain ⟨r25, e26, hf⟩ := hf
          refine r_callv rfl xvX7_fail xm7_78 (kf_p_fail (d := d) L21 e26) qk23.1 qk23.2 (by decide) rfl rfl (dl (by decide)) (by decide) (Nat.le_of_ble_eq_true rfl) ?_
          rintro _ _ ⟨⟨rfl, rfl⟩, L27⟩
          refine r_if_eq (tgt := 67) rfl rfl (fun qc28 => ?_) (fun qc28 => ?_)
          · replace hf := xi_pos hf qc28
            refine XS.go (s_iconst (v := 0) rfl rfl) ?_
            cases hf
            exact XR.retz rfl rfl (by decide) (fun hret => ⟨_, hret, ⟨rfl, rfl⟩, L27⟩)
          · replace hf := xi_neg hf qc28
            exact XR.forget (L2 := [none]) trivial (kb_p_readRoot_63 L27 hf)
  · replace hf := xi_neg hf qc5
    refine XS.go (s_iconst (v := 0) rfl rfl) ?_
    cases hf
    exact XR.retz rfl rfl (by decide) (fun hret => ⟨_, hret, ⟨rfl, rfl⟩, L4⟩)
def b_p_mayStand_38 (h : XH) : Option (Int32 × XH) := (some (1, h))
set_option maxRecDepth 20000 in
theorem kb_p_mayStand_38 {l : Launch} {G : XG} {d : Nat} {h : XH} {r : Int32 × XH} (L0 : LY h) (hf : b_p_mayStand_38 h = some r) : XR l G xEX7_mayStand d (38, [none, none], [], h) (fun C => ∃ v, xRet xEX7_mayStand C v ∧ (C.2.2.2 = r.2 ∧ v = some (.int r.1)) ∧ LY r.2) := by
  unfold b_p_mayStand_38 at hf
  refine XS.go (s_iconst (v := 1) rfl rfl) ?_
  refine XS.go (s_goto (tgt := 43) rfl rfl) ?_
  cases hf
  exact XR.retz rfl rfl (by decide) (fun hret => ⟨_, hret, ⟨rfl, rfl⟩, L0⟩)
def f_p_mayStand (a0 : Nat) (a1 : Nat) (h : XH) : Option (Int32 × XH) := (if a0 < hz h ∧ hk h a0 = 3 then (if ¬ (hi h a0 3) = 5 then (if ¬ (hi h a0 3) = 3 then (b_p_mayStand_38 h) else (if a1 < hz h ∧ hk h a1 = 2 then (if ¬ (hi h a1 0) = 3 then (some (0, h)) else (b_p_mayStand_38 h)) else none)) else (if a1 < hz h ∧ hk h a1 = 2 then (if (hi h a1 0) = 4 then (some (0, h)) else (some (1, h))) else none)) else none)
set_option maxRecDepth 20000 in
theorem kf_p_mayStand {l : Launch} {G : XG} {d : Nat} {a0 : Nat} {a1 : Nat} {h : XH} {r : Int32 × XH} (L0 : LY h) (hf : f_p_mayStand a0 a1 h = some r) : XC l G xEX7_mayStand d [.ref a0, .ref a1] h (fun v h2 => (h2 = r.2 ∧ v = some (.int r.1)) ∧ LY r.2) := by
  refine XC.stat xsX7_mayStand (Nat.le_of_ble_eq_true rfl) ?_
  unfold f_p_mayStand at hf
  refine XR.norm (L3 := [some (.ref a0), some (.ref a1)]) rfl ?_
  refine XS.go (s_aloadn rfl rfl rfl) ?_
  replace hf := xi_none hf
  obtain ⟨qk1, hf⟩ := hf
  refine XS.go (s_getie rfl xf7_158 qk1.1 qk1.2 (by decide) rfl rfl) ?_
  refine XS.go (s_iconst (v := 5) rfl rfl) ?_
  refine r_icmp_ne (tgt := 22) rfl rfl (fun qc2 => ?_) (fun qc2 => ?_)
  · replace hf := xi_pos hf qc2
    refine XS.go (s_aloadn rfl rfl rfl) ?_
    refine XS.go (s_getie rfl xf7_158 qk1.1 qk1.2 (by decide) rfl rfl) ?_
    refine XS.go (s_iconst (v := 3) rfl rfl) ?_
    refine r_icmp_ne (tgt := 38) rfl rfl (fun qc3 => ?_) (fun qc3 => ?_)
    · replace hf := xi_pos hf qc3
      exact XR.forget (L2 := [none, none]) trivial (kb_p_mayStand_38 L0 hf)
    · replace hf := xi_neg hf qc3
      refine XS.go (s_aloadn rfl rfl rfl) ?_
      replace hf := xi_none hf
      obtain ⟨qk4, hf⟩ := hf
      refine XS.go (s_getie rfl xf7_161 qk4.1 qk4.2 (by decide) rfl rfl) ?_
      refine XS.go (s_iconst (v := 3) rfl rfl) ?_
      refine r_icmp_ne (tgt := 42) rfl rfl (fun qc5 => ?_) (fun qc5 => ?_)
      · replace hf := xi_pos hf qc5
        refine XS.go (s_iconst (v := 0) rfl rfl) ?_
        cases hf
        exact XR.retz rfl rfl (by decide) (fun hret => ⟨_, hret, ⟨rfl, rfl⟩, L0⟩)
      · replace hf := xi_neg hf qc5
        exact XR.forget (L2 := [none, none]) trivial (kb_p_mayStand_38 L0 hf)
  · replace hf := xi_neg hf qc2
    refine XS.go (s_aloadn rfl rfl rfl) ?_
    replace hf := xi_none hf
    obtain ⟨qk6, hf⟩ := hf
    refine XS.go (s_getie rfl xf7_161 qk6.1 qk6.2 (by decide) rfl rfl) ?_
    refine XS.go (s_iconst (v := 4) rfl rfl) ?_
    refine r_icmp_eq (tgt := 20) rfl rfl (fun qc7 => ?_) (fun qc7 => ?_)
    · replace hf := xi_pos hf qc7
      refine XS.go (s_iconst (v := 0) rfl rfl) ?_
      cases hf
      exact XR.retz rfl rfl (by decide) (fun hret => ⟨_, hret, ⟨rfl, rfl⟩, L0⟩)
    · replace hf := xi_neg hf qc7
      refine XS.go (s_iconst (v := 1) rfl rfl) ?_
      refine XS.go (s_goto (tgt := 21) rfl rfl) ?_
      cases hf
      exact XR.retz rfl rfl (by decide) (fun hret => ⟨_, hret, ⟨rfl, rfl⟩, L0⟩)
def b_p_resolve_41 (x0 : Nat) (x2 : Int32) (h : XH) : Option (Int32 × XH) := (if x0 < hz h ∧ hk h x0 = 7 then (Option.bind (hr h x0 0) fun b2 => (if b2 = 7 then (Option.bind (f_x_place x2 (hsi h x0 7 5)) fun r5 => (if x0 < hz r5.2 ∧ hk r5.2 x0 = 7 then (some (0, (hsi r5.2 x0 8 r5.1))) else none)) else none)) else none)
set_option maxRecDepth 20000 in
theorem kb_p_resolve_41 {l : Launch} {G : XG} {d : Nat} {x0 : Nat} {x2 : Int32} {h : XH} {r : Int32 × XH} (L0 : LY h) (hf : b_p_resolve_41 x0 x2 h = some r) : XR l G xEX7_resolve (d + 1) (41, [some (.ref x0), none, some (.int x2), none], [], h) (fun C => ∃ v, xRet xEX7_resolve C v ∧ (C.2.2.2 = r.2 ∧ v = some (.int r.1)) ∧ LY r.2) := by
  unfold b_p_resolve_41 at hf
  refine XS.go (s_aloadn rfl rfl rfl) ?_
  refine XS.go (s_iconst (v := 5) rfl rfl) ?_
  replace hf := xi_none hf
  obtain ⟨qk1, hf⟩ := hf
  refine XS.go (s_puti rfl xf7_34 qk1.1 qk1.2 (by decide) rfl (Or.inl rfl)) ?_
  refine XS.go (s_aloadn rfl rfl rfl) ?_
  refine XS.go (s_aloadn rfl rfl rfl) ?_
  replace hf := xb_some hf
  obtain ⟨b2, qr3, hf⟩ := hf
  refine XS.go (s_getr rfl xf7_40 (show x0 < hz _ by simp only [hz_hsi, hk_hsi, hz_hsj, hk_hsj]; exact qk1.1) (by simp only [hz_hsi, hk_hsi, hz_hsj, hk_hsj]; exact qk1.2) (by decide) rfl (by simp only [hr_hsi, hr_hsj]; exact qr3)) ?_
  refine XS.go (s_iloadn rfl rfl rfl) ?_
  replace hf := xi_none hf
  obtain ⟨qk4, hf⟩ := hf
  subst qk4
  replace hf := xb_some hf
  obtain ⟨r5, e6, hf⟩ := hf
  refine r_callv rfl xvX6_place xm7_75 (kf_x_place (d := d) (by simp only [LY_si, LY_sj]; exact L0) e6) (LY.lt (by simp only [LY_si, LY_sj]; exact L0) (by decide)) (LY.k7 (by simp only [LY_si, LY_sj]; exact L0)) (by decide) rfl rfl (dl0 (by decide)) (by decide) (Nat.le_of_ble_eq_true rfl) ?_
  rintro _ _ ⟨⟨rfl, rfl⟩, L7⟩
  replace hf := xi_none hf
  obtain ⟨qk8, hf⟩ := hf
  refine XS.go (s_puti rfl xf7_37 qk8.1 qk8.2 (by decide) rfl (Or.inl rfl)) ?_
  refine XS.go (s_iconst (v := 0) rfl rfl) ?_
  cases hf
  exact XR.retz rfl rfl (by decide) (fun hret => ⟨_, hret, ⟨rfl, rfl⟩, (by simp only [LY_si, LY_sj]; exact L7)⟩)
def f_p_resolve (t : Nat) (a0 : Nat) (h : XH) : Option (Int32 × XH) := (if a0 < hz h ∧ hk h a0 = 3 then (if t < hz h ∧ hk h t = 7 then (Option.bind (hr h t 1) fun b11 => (Option.bind (hr h t 0) fun b13 => (if b13 = 7 then (Option.bind (f_x_head (hi h a0 2) h) fun r16 => (if t < hz r16.2 ∧ hk r16.2 t = 7 then (Option.bind (hr r16.2 t 0) fun b20 => (if b20 = 7 then (Option.bind (f_x_tail (hi h a0 2) r16.2) fun r23 => (if b11 < hz r23.2 ∧ hk r23.2 b11 = 9 then (Option.bind (f_s_named b11 r16.1 r23.1 r23.2) fun r27 => (Option.elim (r27.1) (b_p_resolve_41 t (hi h a0 2) r27.2) fun b31 => (Option.bind (f_p_mayStand a0 b31 r27.2) fun r32 => (if ¬ r32.1 = 0 then (if b31 < hz r32.2 ∧ hk r32.2 b31 = 2 then (if a0 < hz r32.2 ∧ hk r32.2 a0 = 3 then (if ¬ (hi r32.2 a0 3) = 5 then (some (1, (hsi (hsi r32.2 a0 4 (hi r32.2 b31 1)) a0 3 (hi r32.2 b31 0)))) else (some (1, (hsi (hsi r32.2 a0 4 (hi r32.2 b31 1)) a0 5 (hi r32.2 b31 0))))) else none) else none) else (b_p_resolve_41 t (hi h a0 2) r32.2))))) else none)) else none)) else none)) else none))) else none) else none)
set_option maxRecDepth 20000 in
theorem kf_p_resolve {l : Launch} {G : XG} {d : Nat} {t : Nat} {a0 : Nat} {h : XH} {r : Int32 × XH} (L0 : LY h) (hf : f_p_resolve t a0 h = some r) : XC l G xEX7_resolve (d + 1) [.ref t, .ref a0] h (fun v h2 => (h2 = r.2 ∧ v = some (.int r.1)) ∧ LY r.2) := by
  refine XC.virt xvX7_resolve (Nat.le_of_ble_eq_true rfl) ?_
  unfold f_p_resolve at hf
  refine XR.norm (L3 := [some (.ref t), some (.ref a0), none, none]) rfl ?_
  refine XS.go (s_aloadn rfl rfl rfl) ?_
  replace hf := xi_none hf
  obtain ⟨qk9, hf⟩ := hf
  refine XS.go (s_getie rfl xf7_226 qk9.1 qk9.2 (by decide) rfl rfl) ?_
  refine XS.go (XS.lcl (L3 := [some (.ref t), some (.ref a0), some (.int (hi h a0 2)), none]) (s_istoren rfl rfl (Nat.le_of_ble_eq_true rfl)) rfl) ?_
  refine XS.go (s_aloadn rfl rfl rfl) ?_
  replace hf := xi_none hf
  obtain ⟨qk10, hf⟩ := hf
  replace hf := xb_some hf
  obtain ⟨b11, qr12, hf⟩ := hf
  refine XS.go (s_getr rfl xf7_44 qk10.1 qk10.2 (by decide) rfl qr12) ?_
  refine XS.go (s_aloadn rfl rfl rfl) ?_
  replace hf := xb_some hf
  obtain ⟨b13, qr14, hf⟩ := hf
  refine XS.go (s_getr rfl xf7_40 qk10.1 qk10.2 (by decide) rfl qr14) ?_
  refine XS.go (s_iloadn rfl rfl rfl) ?_
  replace hf := xi_none hf
  obtain ⟨qk15, hf⟩ := hf
  subst qk15
  replace hf := xb_some hf
  obtain ⟨r16, e17, hf⟩ := hf
  refine r_callv rfl xvX6_head xm7_109 (kf_x_head (d := d) L0 e17) (LY.lt L0 (by decide)) (LY.k7 L0) (by decide) rfl rfl (dl0 (by decide)) (by decide) (Nat.le_of_ble_eq_true rfl) ?_
  rintro _ _ ⟨⟨rfl, rfl⟩, L18⟩
  refine XS.go (s_aloadn rfl rfl rfl) ?_
  replace hf := xi_none hf
  obtain ⟨qk19, hf⟩ := hf
  replace hf := xb_some hf
  obtain ⟨b20, qr21, hf⟩ := hf
  refine XS.go (s_getr rfl xf7_40 qk19.1 qk19.2 (by decide) rfl qr21) ?_
  refine XS.go (s_iloadn rfl rfl rfl) ?_
  replace hf := xi_none hf
  obtain ⟨qk22, hf⟩ := hf
  subst qk22
  replace hf := xb_some hf
  obtain ⟨r23, e24, hf⟩ := hf
  refine r_callv rfl xvX6_tail xm7_113 (kf_x_tail (d := d) L18 e24) (LY.lt L18 (by decide)) (LY.k7 L18) (by decide) rfl rfl (dl0 (by decide)) (by decide) (Nat.le_of_ble_eq_true rfl) ?_
  rintro _ _ ⟨⟨rfl, rfl⟩, L25⟩
  replace hf := xi_none hf
  obtain ⟨qk26, hf⟩ := hf
  replace hf := xb_some hf
  obtain ⟨r27, e28, hf⟩ := hf
  refine r_callv rfl xvX9_named xm7_116 (kf_s_named (d := d) L25 e28) qk26.1 qk26.2 (by decide) rfl rfl (dl0 (by decide)) (by decide) (Nat.le_of_ble_eq_true rfl) ?_
  rintro _ _ ⟨⟨rfl, rfl⟩, L29⟩
  refine XS.go (XS.lcl (L3 := [some (.ref t), some (.ref a0), some (.int (hi h a0 2)), some (va_rf r27.1)]) (s_astorenO rfl rfl (Nat.le_of_ble_eq_true rfl)) rfl) ?_
  refine XS.go (s_aloadnO rfl rfl rfl) ?_
  refine r_ifnull (tgt := 41) rfl rfl (fun qn30 => ?_) (fun b31 qn30 => ?_)
  · replace hf := xo_none hf qn30
    try rw [qn30]
    exact XR.forget (L2 := [some (.ref t), none, some (.int (hi h a0 2)), none]) ⟨rfl, ⟨rfl, trivial⟩⟩ (kb_p_resolve_41 L29 hf)
  · replace hf := xo_some hf qn30
    try rw [qn30]
    refine XS.go (s_aloadn rfl rfl rfl) ?_
    refine XS.go (s_aloadn rfl rfl rfl) ?_
    replace hf := xb_some hf
    obtain ⟨r32, e33, hf⟩ := hf
    refine r_calls rfl xsX7_mayStand xm7_247 (kf_p_mayStand (d := d) L29 e33) rfl rfl (dl0 (by decide)) (by decide) (Nat.le_of_ble_eq_true rfl) ?_
    rintro _ _ ⟨⟨rfl, rfl⟩, L34⟩
    refine r_if_ne (tgt := 60) rfl rfl (fun qc35 => ?_) (fun qc35 => ?_)
    · replace hf := xi_pos hf qc35
      refine XS.go (s_aloadn rfl rfl rfl) ?_
      refine XS.go (s_aloadn rfl rfl rfl) ?_
      replace hf := xi_none hf
      obtain ⟨qk36, hf⟩ := hf
      refine XS.go (s_getie rfl xf7_162 qk36.1 qk36.2 (by decide) rfl rfl) ?_
      replace hf := xi_none hf
      obtain ⟨qk37, hf⟩ := hf
      refine XS.go (s_puti rfl xf7_69 qk37.1 qk37.2 (by decide) rfl (Or.inl rfl)) ?_
      refine XS.go (s_aloadn rfl rfl rfl) ?_
      refine XS.go (s_getie rfl xf7_158 (show a0 < hz _ by simp only [hz_hsi, hk_hsi, hz_hsj, hk_hsj]; exact qk37.1) (by simp only [hz_hsi, hk_hsi, hz_hsj, hk_hsj]; exact qk37.2) (by decide) rfl (hi_hsi_nk (by decide))) ?_
      refine XS.go (s_iconst (v := 5) rfl rfl) ?_
      refine r_icmp_ne (tgt := 87) rfl rfl (fun qc38 => ?_) (fun qc38 => ?_)
      · replace hf := xi_pos hf qc38
        refine XS.go (s_aloadn rfl rfl rfl) ?_
        refine XS.go (s_aloadn rfl rfl rfl) ?_
        refine XS.go (s_getie rfl xf7_161 (show b31 < hz _ by simp only [hz_hsi, hk_hsi, hz_hsj, hk_hsj]; exact qk36.1) (by simp only [hz_hsi, hk_hsi, hz_hsj, hk_hsj]; exact qk36.2) (by decide) rfl (hi_hsi_nk (by decide))) ?_
        refine XS.go (s_puti rfl xf7_158 (show a0 < hz _ by simp only [hz_hsi, hk_hsi, hz_hsj, hk_hsj]; exact qk37.1) (by simp only [hz_hsi, hk_hsi, hz_hsj, hk_hsj]; exact qk37.2) (by decide) rfl (Or.inl rfl)) ?_
        refine XS.go (s_iconst (v := 1) rfl rfl) ?_
        cases hf
        exact XR.retz rfl rfl (by decide) (fun hret => ⟨_, hret, ⟨rfl, rfl⟩, (by simp only [LY_si, LY_sj]; exact L34)⟩)
      · replace hf := xi_neg hf qc38
        refine XS.go (s_aloadn rfl rfl rfl) ?_
        refine XS.go (s_aloadn rfl rfl rfl) ?_
        refine XS.go (s_getie rfl xf7_161 (show b31 < hz _ by simp only [hz_hsi, hk_hsi, hz_hsj, hk_hsj]; exact qk36.1) (by simp only [hz_hsi, hk_hsi, hz_hsj, hk_hsj]; exact qk36.2) (by decide) rfl (hi_hsi_nk (by decide))) ?_
        refine XS.go (s_puti rfl xf7_223 (show a0 < hz _ by simp only [hz_hsi, hk_hsi, hz_hsj, hk_hsj]; exact qk37.1) (by simp only [hz_hsi, hk_hsi, hz_hsj, hk_hsj]; exact qk37.2) (by decide) rfl (Or.inl rfl)) ?_
        refine XS.go (s_goto (tgt := 95) rfl rfl) ?_
        refine XS.go (s_iconst (v := 1) rfl rfl) ?_
        cases hf
        exact XR.retz rfl rfl (by decide) (fun hret => ⟨_, hret, ⟨rfl, rfl⟩, (by simp only [LY_si, LY_sj]; exact L34)⟩)
    · replace hf := xi_neg hf qc35
      exact XR.forget (L2 := [some (.ref t), none, some (.int (hi h a0 2)), none]) ⟨rfl, ⟨rfl, trivial⟩⟩ (kb_p_resolve_41 L34 hf)
def b_p_resolveAll_40 (K2 : Nat → Int32 → XH → Option (Int32 × XH)) (x0 : Nat) (x1 : Int32) (h : XH) : Option (Int32 × XH) := (K2 x0 (x1 + 1) h)
set_option maxRecDepth 20000 in
theorem kb_p_resolveAll_40 {l : Launch} {G : XG} {d : Nat} {K2 : Nat → Int32 → XH → Option (Int32 × XH)} {x0 : Nat} {x1 : Int32} {h : XH} {r : Int32 × XH} (hK2 : ∀ (x0 : Nat) (x1 : Int32) (h : XH), LY h → K2 x0 x1 h = some r → XR l G xEX7_resolveAll (d + 2) (2, [some (.ref x0), some (.int x1), none], [], h) (fun C => ∃ v, xRet xEX7_resolveAll C v ∧ (C.2.2.2 = r.2 ∧ v = some (.int r.1)) ∧ LY r.2)) (L0 : LY h) (hf : b_p_resolveAll_40 K2 x0 x1 h = some r) : XR l G xEX7_resolveAll (d + 2) (40, [some (.ref x0), some (.int x1), none], [], h) (fun C => ∃ v, xRet xEX7_resolveAll C v ∧ (C.2.2.2 = r.2 ∧ v = some (.int r.1)) ∧ LY r.2) := by
  unfold b_p_resolveAll_40 at hf
  refine XS.go (XS.lcl (L3 := [some (.ref x0), some (.int (x1 + 1)), none]) (s_inc rfl rfl (Nat.le_of_ble_eq_true rfl)) rfl) ?_
  refine XS.go (s_goto (tgt := 2) rfl rfl) ?_
  exact XR.forget (L2 := [some (.ref x0), some (.int (x1 + 1)), none]) ⟨rfl, ⟨rfl, trivial⟩⟩ (hK2 x0 (x1 + 1) _ L0 hf)
def s_p_resolveAll_2 (K2 : Nat → Int32 → XH → Option (Int32 × XH)) (x0 : Nat) (x1 : Int32) (h : XH) : Option (Int32 × XH) := (if x0 < hz h ∧ hk h x0 = 7 then (if (hi h x0 3) ≤ x1 then (some (1, h)) else (Option.bind (hr h x0 2) fun b3 => (if b3 < hz h ∧ hk h b3 = 104 then (if (nI (hn h b3)) ≤ x1 then (some (1, h)) else (if 0 ≤ x1 ∧ x1 < nI (hn h b3) ∧ (hn h b3) < 2 ^ 31 then (Option.bind (hr h b3 (Int32.toNatClampNeg x1)) fun b8 => (Option.bind (f_p_resolve x0 b8 h) fun r10 => (if ¬ r10.1 = 0 then (b_p_resolveAll_40 K2 x0 x1 r10.2) else (some (0, r10.2))))) else none)) else none))) else none)
set_option maxRecDepth 20000 in
theorem ks_p_resolveAll_2 {l : Launch} {G : XG} {d : Nat} {K2 : Nat → Int32 → XH → Option (Int32 × XH)} {x0 : Nat} {x1 : Int32} {h : XH} {r : Int32 × XH} (hK2 : ∀ (x0 : Nat) (x1 : Int32) (h : XH), LY h → K2 x0 x1 h = some r → XR l G xEX7_resolveAll (d + 2) (2, [some (.ref x0), some (.int x1), none], [], h) (fun C => ∃ v, xRet xEX7_resolveAll C v ∧ (C.2.2.2 = r.2 ∧ v = some (.int r.1)) ∧ LY r.2)) (L0 : LY h) (hf : s_p_resolveAll_2 K2 x0 x1 h = some r) : XR l G xEX7_resolveAll (d + 2) (2, [some (.ref x0), some (.int x1), none], [], h) (fun C => ∃ v, xRet xEX7_resolveAll C v ∧ (C.2.2.2 = r.2 ∧ v = some (.int r.1)) ∧ LY r.2) := by
  unfold s_p_resolveAll_2 at hf
  refine XS.go (s_iloadn rfl rfl rfl) ?_
  refine XS.go (s_aloadn rfl rfl rfl) ?_
  replace hf := xi_none hf
  obtain ⟨qk1, hf⟩ := hf
  refine XS.go (s_getie rfl xf7_17 qk1.1 qk1.2 (by decide) rfl rfl) ?_
  refine r_icmp_ge (tgt := 46) rfl rfl (fun qc2 => ?_) (fun qc2 => ?_)
  · replace hf := xi_pos hf qc2
    refine XS.go (s_iconst (v := 1) rfl rfl) ?_
    cases hf
    exact XR.retz rfl rfl (by decide) (fun hret => ⟨_, hret, ⟨rfl, rfl⟩, L0⟩)
  · replace hf := xi_neg hf qc2
    refine XS.go (s_iloadn rfl rfl rfl) ?_
    refine XS.go (s_aloadn rfl rfl rfl) ?_
    replace hf := xb_some hf
    obtain ⟨b3, qr4, hf⟩ := hf
    refine XS.go (s_getr rfl xf7_13 qk1.1 qk1.2 (by decide) rfl qr4) ?_
    replace hf := xi_none hf
    obtain ⟨qk5, hf⟩ := hf
    refine XS.go (s_alene (N := hn h b3) rfl qk5.1 qk5.2 rfl (by decide)) ?_
    refine r_icmp_ge (tgt := 46) rfl rfl (fun qc6 => ?_) (fun qc6 => ?_)
    · replace hf := xi_pos hf qc6
      refine XS.go (s_iconst (v := 1) rfl rfl) ?_
      cases hf
      exact XR.retz rfl rfl (by decide) (fun hret => ⟨_, hret, ⟨rfl, rfl⟩, L0⟩)
    · replace hf := xi_neg hf qc6
      refine XS.go (s_aloadn rfl rfl rfl) ?_
      refine XS.go (s_getr rfl xf7_13 qk1.1 qk1.2 (by decide) rfl qr4) ?_
      refine XS.go (s_iloadn rfl rfl rfl) ?_
      replace hf := xi_none hf
      obtain ⟨qk7, hf⟩ := hf
      replace hf := xb_some hf
      obtain ⟨b8, qr9, hf⟩ := hf
      refine XS.go (s_aald104e rfl qk5.1 qk5.2 (inLit (N := hn h b3) rfl qk7.1 qk7.2.1 qk7.2.2) qr9) ?_
      refine XS.go (XS.lcl (L3 := [some (.ref x0), some (.int x1), some (.ref b8)]) (s_astoren rfl rfl (Nat.le_of_ble_eq_true rfl)) rfl) ?_
      refine XS.go (s_aloadn rfl rfl rfl) ?_
      refine XS.go (s_ifnull_r rfl) ?_
      refine XS.go (s_aloadn rfl rfl rfl) ?_
      refine XS.go (s_aloadn rfl rfl rfl) ?_
      replace hf := xb_some hf
      obtain ⟨r10, e11, hf⟩ := hf
      refine r_callv rfl xvX7_resolve xm7_244 (kf_p_resolve (d := d) L0 e11) qk1.1 qk1.2 (by decide) rfl rfl (dl (by decide)) (by decide) (Nat.le_of_ble_eq_true rfl) ?_
      rintro _ _ ⟨⟨rfl, rfl⟩, L12⟩
      refine r_if_ne (tgt := 40) rfl rfl (fun qc13 => ?_) (fun qc13 => ?_)
      · replace hf := xi_pos hf qc13
        exact XR.forget (L2 := [some (.ref x0), some (.int x1), none]) ⟨rfl, ⟨rfl, trivial⟩⟩ (kb_p_resolveAll_40 hK2 L12 hf)
      · replace hf := xi_neg hf qc13
        refine XS.go (s_iconst (v := 0) rfl rfl) ?_
        cases hf
        exact XR.retz rfl rfl (by decide) (fun hret => ⟨_, hret, ⟨rfl, rfl⟩, L12⟩)
def b_p_resolveAll_2 : Nat → Nat → Int32 → XH → Option (Int32 × XH)
  | 0, _, _, _ => none
  | n + 1, x0, x1, h => s_p_resolveAll_2 (b_p_resolveAll_2 n) x0 x1 h
theorem kb_p_resolveAll_2 {l : Launch} {G : XG} {d : Nat} {n : Nat} {x0 : Nat} {x1 : Int32} {h : XH} {r : Int32 × XH} (L0 : LY h) (hf : b_p_resolveAll_2 n x0 x1 h = some r) : XR l G xEX7_resolveAll (d + 2) (2, [some (.ref x0), some (.int x1), none], [], h) (fun C => ∃ v, xRet xEX7_resolveAll C v ∧ (C.2.2.2 = r.2 ∧ v = some (.int r.1)) ∧ LY r.2) := by
  induction n generalizing x0 x1 h with
  | zero => cases hf
  | succ n ih => exact ks_p_resolveAll_2 (fun x0 x1 h L0 hf => ih (h := h) (x0 := x0) (x1 := x1) L0 hf) L0 hf
def f_p_resolveAll (t : Nat) (h : XH) : Option (Int32 × XH) := (b_p_resolveAll_2 100000 t 0 h)
set_option maxRecDepth 20000 in
theorem kf_p_resolveAll {l : Launch} {G : XG} {d : Nat} {t : Nat} {h : XH} {r : Int32 × XH} (L0 : LY h) (hf : f_p_resolveAll t h = some r) : XC l G xEX7_resolveAll (d + 2) [.ref t] h (fun v h2 => (h2 = r.2 ∧ v = some (.int r.1)) ∧ LY r.2) := by
  refine XC.virt xvX7_resolveAll (Nat.le_of_ble_eq_true rfl) ?_
  unfold f_p_resolveAll at hf
  refine XR.norm (L3 := [some (.ref t), none, none]) rfl ?_
  refine XS.go (s_iconst (v := 0) rfl rfl) ?_
  refine XS.go (XS.lcl (L3 := [some (.ref t), some (.int 0), none]) (s_istoren rfl rfl (Nat.le_of_ble_eq_true rfl)) rfl) ?_
  exact XR.forget (L2 := [some (.ref t), some (.int 0), none]) ⟨rfl, ⟨rfl, trivial⟩⟩ (kb_p_resolveAll_2 L0 hf)
def f_s_restart (t : Nat) (h : XH) : Option (Unit × XH) := (if t < hz h ∧ hk h t = 9 then (Option.bind (hr h t 0) fun b2 => (if b2 < hz h ∧ hk h b2 = 4 then (Option.bind (hr h t 1) fun b5 => (if b5 < hz h ∧ hk h b5 = 4 then (Option.bind (hr h t 2) fun b8 => (if b8 < hz h ∧ hk h b8 = 4 then (some ((), (hsi (hsi (hsi (hsi (hsi h b2 1 0) b5 1 0) b8 1 0) t 4 0) t 5 (-1)))) else none)) else none)) else none)) else none)
set_option maxRecDepth 20000 in
theorem kf_s_restart {l : Launch} {G : XG} {d : Nat} {t : Nat} {h : XH} {r : Unit × XH} (L0 : LY h) (hf : f_s_restart t h = some r) : XC l G xEX9_restart d [.ref t] h (fun v h2 => (h2 = r.2 ∧ v = none) ∧ LY r.2) := by
  refine XC.virt xvX9_restart (Nat.le_of_ble_eq_true rfl) ?_
  unfold f_s_restart at hf
  refine XR.norm (L3 := [some (.ref t)]) rfl ?_
  refine XS.go (s_aloadn rfl rfl rfl) ?_
  replace hf := xi_none hf
  obtain ⟨qk1, hf⟩ := hf
  replace hf := xb_some hf
  obtain ⟨b2, qr3, hf⟩ := hf
  refine XS.go (s_getr rfl xf9_14 qk1.1 qk1.2 (by decide) rfl qr3) ?_
  refine XS.go (s_iconst (v := 0) rfl rfl) ?_
  replace hf := xi_none hf
  obtain ⟨qk4, hf⟩ := hf
  refine XS.go (s_puti rfl xf9_39 qk4.1 qk4.2 (by decide) rfl (Or.inl rfl)) ?_
  refine XS.go (s_aloadn rfl rfl rfl) ?_
  replace hf := xb_some hf
  obtain ⟨b5, qr6, hf⟩ := hf
  refine XS.go (s_getr rfl xf9_20 (show t < hz _ by simp only [hz_hsi, hk_hsi, hz_hsj, hk_hsj]; exact qk1.1) (by simp only [hz_hsi, hk_hsi, hz_hsj, hk_hsj]; exact qk1.2) (by decide) rfl (by simp only [hr_hsi, hr_hsj]; exact qr6)) ?_
  refine XS.go (s_iconst (v := 0) rfl rfl) ?_
  replace hf := xi_none hf
  obtain ⟨qk7, hf⟩ := hf
  refine XS.go (s_puti rfl xf9_39 (show b5 < hz _ by simp only [hz_hsi, hk_hsi, hz_hsj, hk_hsj]; exact qk7.1) (by simp only [hz_hsi, hk_hsi, hz_hsj, hk_hsj]; exact qk7.2) (by decide) rfl (Or.inl rfl)) ?_
  refine XS.go (s_aloadn rfl rfl rfl) ?_
  replace hf := xb_some hf
  obtain ⟨b8, qr9, hf⟩ := hf
  refine XS.go (s_getr rfl xf9_23 (show t < hz _ by simp only [hz_hsi, hk_hsi, hz_hsj, hk_hsj]; exact qk1.1) (by simp only [hz_hsi, hk_hsi, hz_hsj, hk_hsj]; exact qk1.2) (by decide) rfl (by simp only [hr_hsi, hr_hsj]; exact qr9)) ?_
  refine XS.go (s_iconst (v := 0) rfl rfl) ?_
  replace hf := xi_none hf
  obtain ⟨qk10, hf⟩ := hf
  refine XS.go (s_puti rfl xf9_39 (show b8 < hz _ by simp only [hz_hsi, hk_hsi, hz_hsj, hk_hsj]; exact qk10.1) (by simp only [hz_hsi, hk_hsi, hz_hsj, hk_hsj]; exact qk10.2) (by decide) rfl (Or.inl rfl)) ?_
  refine XS.go (s_aloadn rfl rfl rfl) ?_
  refine XS.go (s_iconst (v := 0) rfl rfl) ?_
  refine XS.go (s_puti rfl xf9_32 (show t < hz _ by simp only [hz_hsi, hk_hsi, hz_hsj, hk_hsj]; exact qk1.1) (by simp only [hz_hsi, hk_hsi, hz_hsj, hk_hsj]; exact qk1.2) (by decide) rfl (Or.inl rfl)) ?_
  refine XS.go (s_aloadn rfl rfl rfl) ?_
  refine XS.go (s_iconst (v := (-1)) rfl rfl) ?_
  refine XS.go (s_puti rfl xf9_36 (show t < hz _ by simp only [hz_hsi, hk_hsi, hz_hsj, hk_hsj]; exact qk1.1) (by simp only [hz_hsi, hk_hsi, hz_hsj, hk_hsj]; exact qk1.2) (by decide) rfl (Or.inl rfl)) ?_
  cases hf
  exact XR.retv rfl rfl (fun hret => ⟨_, hret, ⟨rfl, rfl⟩, (by simp only [LY_si, LY_sj]; exact L0)⟩)
def b_p_parse_55 (x0 : Nat) (h : XH) : Option (Int32 × XH) := (if x0 < hz h ∧ hk h x0 = 7 then (Option.bind (f_p_readRoot x0 h) fun r2 => (if r2.1 = 0 then (some (0, r2.2)) else (if x0 < hz r2.2 ∧ hk r2.2 x0 = 7 then (Option.bind (f_p_resolveAll x0 r2.2) fun r7 => (if ¬ r7.1 = 0 then (if x0 < hz r7.2 ∧ hk r7.2 x0 = 7 then (Option.bind (f_p_numberAllSlots x0 r7.2) fun r12 => (if x0 < hz r12.2 ∧ hk r12.2 x0 = 7 then (Option.bind (hr r12.2 x0 1) fun b16 => (Option.bind (hr r12.2 x0 4) fun b18 => (if b18 < hz r12.2 ∧ hk r12.2 b18 = 3 then (if b16 < hz r12.2 ∧ hk r12.2 b16 = 9 then (some (1, (hsi r12.2 b16 5 (hi r12.2 b18 4)))) else none) else none))) else none)) else none) else (some (0, r7.2)))) else none))) else none)
set_option maxRecDepth 20000 in
theorem kb_p_parse_55 {l : Launch} {G : XG} {d : Nat} {x0 : Nat} {h : XH} {r : Int32 × XH} (L0 : LY h) (hf : b_p_parse_55 x0 h = some r) : XR l G xEX7_parse (d + 6) (55, [some (.ref x0), none], [], h) (fun C => ∃ v, xRet xEX7_parse C v ∧ (C.2.2.2 = r.2 ∧ v = some (.int r.1)) ∧ LY r.2) := by
  unfold b_p_parse_55 at hf
  refine XS.go (s_aloadn rfl rfl rfl) ?_
  replace hf := xi_none hf
  obtain ⟨qk1, hf⟩ := hf
  replace hf := xb_some hf
  obtain ⟨r2, e3, hf⟩ := hf
  refine r_callv rfl xvX7_readRoot xm7_60 (kf_p_readRoot (d := d) L0 e3) qk1.1 qk1.2 (by decide) rfl rfl (dl (by decide)) (by decide) (Nat.le_of_ble_eq_true rfl) ?_
  rintro _ _ ⟨⟨rfl, rfl⟩, L4⟩
  refine r_if_eq (tgt := 69) rfl rfl (fun qc5 => ?_) (fun qc5 => ?_)
  · replace hf := xi_pos hf qc5
    refine XS.go (s_iconst (v := 0) rfl rfl) ?_
    cases hf
    exact XR.retz rfl rfl (by decide) (fun hret => ⟨_, hret, ⟨rfl, rfl⟩, L4⟩)
  · replace hf := xi_neg hf qc5
    refine XS.go (s_aloadn rfl rfl rfl) ?_
    replace hf := xi_none hf
    obtain ⟨qk6, hf⟩ := hf
    replace hf := xb_some hf
    obtain ⟨r7, e8, hf⟩ := hf
    refine r_callv rfl xvX7_resolveAll xm7_63 (kf_p_resolveAll (d := d) L4 e8) qk6.1 qk6.2 (by decide) rfl rfl (dl (by decide)) (by decide) (Nat.le_of_ble_eq_true rfl) ?_
    rintro _ _ ⟨⟨rfl, rfl⟩, L9⟩
    refine r_if_ne (tgt := 71) rfl rfl (fun qc10 => ?_) (fun qc10 => ?_)
    · replace hf := xi_pos hf qc10
      refine XS.go (s_aloadn rfl rfl rfl) ?_
      replace hf := xi_none hf
      obtain ⟨qk11, hf⟩ := hf
      replace hf := xb_some hf
      obtain ⟨r12, e13, hf⟩ := hf
      refine r_callv rfl xvX7_numberAllSlots xm7_66 (kf_p_numberAllSlots (d := d) L9 e13) qk11.1 qk11.2 (by decide) rfl rfl (dl (by decide)) (by decide) (Nat.le_of_ble_eq_true rfl) ?_
      rintro _ _ ⟨⟨rfl, rfl⟩, L14⟩
      refine XS.go (s_aloadn rfl rfl rfl) ?_
      replace hf := xi_none hf
      obtain ⟨qk15, hf⟩ := hf
      replace hf := xb_some hf
      obtain ⟨b16, qr17, hf⟩ := hf
      refine XS.go (s_getr rfl xf7_44 qk15.1 qk15.2 (by decide) rfl qr17) ?_
      refine XS.go (s_aloadn rfl rfl rfl) ?_
      replace hf := xb_some hf
      obtain ⟨b18, qr19, hf⟩ := hf
      refine XS.go (s_getr rfl xf7_22 qk15.1 qk15.2 (by decide) rfl qr19) ?_
      replace hf := xi_none hf
      obtain ⟨qk20, hf⟩ := hf
      refine XS.go (s_getie rfl xf7_69 qk20.1 qk20.2 (by decide) rfl rfl) ?_
      replace hf := xi_none hf
      obtain ⟨qk21, hf⟩ := hf
      refine XS.go (s_puti rfl xf7_72 qk21.1 qk21.2 (by decide) rfl (Or.inl rfl)) ?_
      refine XS.go (s_iconst (v := 1) rfl rfl) ?_
      cases hf
      exact XR.retz rfl rfl (by decide) (fun hret => ⟨_, hret, ⟨rfl, rfl⟩, (by simp only [LY_si, LY_sj]; exact L14)⟩)
    · replace hf := xi_neg hf qc10
      refine XS.go (s_iconst (v := 0) rfl rfl) ?_
      cases hf
      exact XR.retz rfl rfl (by decide) (fun hret => ⟨_, hret, ⟨rfl, rfl⟩, L9⟩)
def s_p_parse_24 (K24 : Nat → Int32 → XH → Option (Int32 × XH)) (x0 : Nat) (x1 : Int32) (h : XH) : Option (Int32 × XH) := (if x0 < hz h ∧ hk h x0 = 7 then (if (hi h x0 6) = 9 then (b_p_parse_55 x0 h) else (if 4000 < x1 then (b_p_parse_55 x0 h) else (Option.bind (f_p_readDefinition x0 h) fun r25 => (if ¬ r25.1 = 0 then (K24 x0 (x1 + 1) r25.2) else (some (0, r25.2)))))) else none)
set_option maxRecDepth 20000 in
theorem ks_p_parse_24 {l : Launch} {G : XG} {d : Nat} {K24 : Nat → Int32 → XH → Option (Int32 × XH)} {x0 : Nat} {x1 : Int32} {h : XH} {r : Int32 × XH} (hK24 : ∀ (x0 : Nat) (x1 : Int32) (h : XH), LY h → K24 x0 x1 h = some r → XR l G xEX7_parse (d + 6) (24, [some (.ref x0), some (.int x1)], [], h) (fun C => ∃ v, xRet xEX7_parse C v ∧ (C.2.2.2 = r.2 ∧ v = some (.int r.1)) ∧ LY r.2)) (L0 : LY h) (hf : s_p_parse_24 K24 x0 x1 h = some r) : XR l G xEX7_parse (d + 6) (24, [some (.ref x0), some (.int x1)], [], h) (fun C => ∃ v, xRet xEX7_parse C v ∧ (C.2.2.2 = r.2 ∧ v = some (.int r.1)) ∧ LY r.2) := by
  unfold s_p_parse_24 at hf
  refine XS.go (s_aloadn rfl rfl rfl) ?_
  replace hf := xi_none hf
  obtain ⟨qk22, hf⟩ := hf
  refine XS.go (s_getie rfl xf7_31 qk22.1 qk22.2 (by decide) rfl rfl) ?_
  refine XS.go (s_bipush (v := 9) rfl rfl) ?_
  refine r_icmp_eq (tgt := 55) rfl rfl (fun qc23 => ?_) (fun qc23 => ?_)
  · replace hf := xi_pos hf qc23
    exact XR.forget (L2 := [some (.ref x0), none]) ⟨rfl, trivial⟩ (kb_p_parse_55 L0 hf)
  · replace hf := xi_neg hf qc23
    refine XS.go (s_iloadn rfl rfl rfl) ?_
    refine XS.go (s_sipush (v := 4000) rfl rfl) ?_
    refine r_icmp_gt (tgt := 55) rfl rfl (fun qc24 => ?_) (fun qc24 => ?_)
    · replace hf := xi_pos hf qc24
      exact XR.forget (L2 := [some (.ref x0), none]) ⟨rfl, trivial⟩ (kb_p_parse_55 L0 hf)
    · replace hf := xi_neg hf qc24
      refine XS.go (s_aloadn rfl rfl rfl) ?_
      replace hf := xb_some hf
      obtain ⟨r25, e26, hf⟩ := hf
      refine r_callv rfl xvX7_readDefinition xm7_56 (kf_p_readDefinition (d := d) L0 e26) qk22.1 qk22.2 (by decide) rfl rfl (dl (by decide)) (by decide) (Nat.le_of_ble_eq_true rfl) ?_
      rintro _ _ ⟨⟨rfl, rfl⟩, L27⟩
      refine r_if_ne (tgt := 49) rfl rfl (fun qc28 => ?_) (fun qc28 => ?_)
      · replace hf := xi_pos hf qc28
        refine XS.go (XS.lcl (L3 := [some (.ref x0), some (.int (x1 + 1))]) (s_inc rfl rfl (Nat.le_of_ble_eq_true rfl)) rfl) ?_
        refine XS.go (s_goto (tgt := 24) rfl rfl) ?_
        exact XR.forget (L2 := [some (.ref x0), some (.int (x1 + 1))]) ⟨rfl, ⟨rfl, trivial⟩⟩ (hK24 x0 (x1 + 1) _ L27 hf)
      · replace hf := xi_neg hf qc28
        refine XS.go (s_iconst (v := 0) rfl rfl) ?_
        cases hf
        exact XR.retz rfl rfl (by decide) (fun hret => ⟨_, hret, ⟨rfl, rfl⟩, L27⟩)
def b_p_parse_24 : Nat → Nat → Int32 → XH → Option (Int32 × XH)
  | 0, _, _, _ => none
  | n + 1, x0, x1, h => s_p_parse_24 (b_p_parse_24 n) x0 x1 h
theorem kb_p_parse_24 {l : Launch} {G : XG} {d : Nat} {n : Nat} {x0 : Nat} {x1 : Int32} {h : XH} {r : Int32 × XH} (L0 : LY h) (hf : b_p_parse_24 n x0 x1 h = some r) : XR l G xEX7_parse (d + 6) (24, [some (.ref x0), some (.int x1)], [], h) (fun C => ∃ v, xRet xEX7_parse C v ∧ (C.2.2.2 = r.2 ∧ v = some (.int r.1)) ∧ LY r.2) := by
  induction n generalizing x0 x1 h with
  | zero => cases hf
  | succ n ih => exact ks_p_parse_24 (fun x0 x1 h L0 hf => ih (h := h) (x0 := x0) (x1 := x1) L0 hf) L0 hf
def f_p_parse (t : Nat) (h : XH) : Option (Int32 × XH) := (if t < hz h ∧ hk h t = 7 then (Option.bind (hr h t 1) fun b30 => (if b30 < hz h ∧ hk h b30 = 9 then (Option.bind (f_s_restart b30 h) fun r33 => (if t < hz r33.2 ∧ hk r33.2 t = 7 then (Option.bind (hr r33.2 t 0) fun b37 => (if b37 = 7 then (Option.bind (f_x_kind (hi r33.2 t 5) r33.2) fun r40 => (if t < hz r40.2 ∧ hk r40.2 t = 7 then (b_p_parse_24 100000 t 0 (hsi r40.2 t 6 r40.1)) else none)) else none)) else none)) else none)) else none)
set_option maxRecDepth 20000 in
theorem kf_p_parse {l : Launch} {G : XG} {d : Nat} {t : Nat} {h : XH} {r : Int32 × XH} (L0 : LY h) (hf : f_p_parse t h = some r) : XC l G xEX7_parse (d + 6) [.ref t] h (fun v h2 => (h2 = r.2 ∧ v = some (.int r.1)) ∧ LY r.2) := by
  refine XC.virt xvX7_parse (Nat.le_of_ble_eq_true rfl) ?_
  unfold f_p_parse at hf
  refine XR.norm (L3 := [some (.ref t), none]) rfl ?_
  refine XS.go (s_aloadn rfl rfl rfl) ?_
  replace hf := xi_none hf
  obtain ⟨qk29, hf⟩ := hf
  replace hf := xb_some hf
  obtain ⟨b30, qr31, hf⟩ := hf
  refine XS.go (s_getr rfl xf7_44 qk29.1 qk29.2 (by decide) rfl qr31) ?_
  replace hf := xi_none hf
  obtain ⟨qk32, hf⟩ := hf
  replace hf := xb_some hf
  obtain ⟨r33, e34, hf⟩ := hf
  refine r_callv rfl xvX9_restart xm7_48 (kf_s_restart (d := d) L0 e34) qk32.1 qk32.2 (by decide) rfl rfl (dl0 (by decide)) (by decide) (Nat.le_of_ble_eq_true rfl) ?_
  rintro _ _ ⟨⟨rfl, rfl⟩, L35⟩
  refine XS.go (s_aloadn rfl rfl rfl) ?_
  refine XS.go (s_aloadn rfl rfl rfl) ?_
  replace hf := xi_none hf
  obtain ⟨qk36, hf⟩ := hf
  replace hf := xb_some hf
  obtain ⟨b37, qr38, hf⟩ := hf
  refine XS.go (s_getr rfl xf7_40 qk36.1 qk36.2 (by decide) rfl qr38) ?_
  refine XS.go (s_aloadn rfl rfl rfl) ?_
  refine XS.go (s_getie rfl xf7_26 qk36.1 qk36.2 (by decide) rfl rfl) ?_
  replace hf := xi_none hf
  obtain ⟨qk39, hf⟩ := hf
  subst qk39
  replace hf := xb_some hf
  obtain ⟨r40, e41, hf⟩ := hf
  refine r_callv rfl xvX6_kind xm7_53 (kf_x_kind (d := d) L35 e41) (LY.lt L35 (by decide)) (LY.k7 L35) (by decide) rfl rfl (dl0 (by decide)) (by decide) (Nat.le_of_ble_eq_true rfl) ?_
  rintro _ _ ⟨⟨rfl, rfl⟩, L42⟩
  replace hf := xi_none hf
  obtain ⟨qk43, hf⟩ := hf
  refine XS.go (s_puti rfl xf7_31 qk43.1 qk43.2 (by decide) rfl (Or.inl rfl)) ?_
  refine XS.go (s_iconst (v := 0) rfl rfl) ?_
  refine XS.go (XS.lcl (L3 := [some (.ref t), some (.int 0)]) (s_istoren rfl rfl (Nat.le_of_ble_eq_true rfl)) rfl) ?_
  exact XR.forget (L2 := [some (.ref t), some (.int 0)]) ⟨rfl, ⟨rfl, trivial⟩⟩ (kb_p_parse_24 (by simp only [LY_si, LY_sj]; exact L42) hf)
def f_r_drop (h : XH) : Option (Unit × XH) := (some ((), (hsi (hsi h 1256 1 0) 1255 5 (-1))))
set_option maxRecDepth 20000 in
theorem kf_r_drop {l : Launch} {G : XG} {d : Nat} {h : XH} {r : Unit × XH} (L0 : LY h) (hf : f_r_drop h = some r) : XC l G xEX8_drop d [.ref 1255] h (fun v h2 => (h2 = r.2 ∧ v = none) ∧ LY r.2) := by
  refine XC.virt xvX8_drop (Nat.le_of_ble_eq_true rfl) ?_
  unfold f_r_drop at hf
  refine XR.norm (L3 := [some (.ref 1255)]) rfl ?_
  refine XS.go (s_aloadn rfl rfl rfl) ?_
  refine XS.go (s_getr rfl xf8_12 (LY.lt L0 (by decide)) (LY.k1255 L0) (by decide) rfl (LY.r1255_0 L0)) ?_
  refine XS.go (s_iconst (v := 0) rfl rfl) ?_
  refine XS.go (s_puti rfl xf8_54 (LY.lt L0 (by decide)) (LY.k1256 L0) (by decide) rfl (Or.inl rfl)) ?_
  refine XS.go (s_aloadn rfl rfl rfl) ?_
  refine XS.go (s_iconst (v := (-1)) rfl rfl) ?_
  refine XS.go (s_puti rfl xf8_31 (LY.lt (by simp only [LY_si, LY_sj]; exact L0) (by decide)) (LY.k1255 (by simp only [LY_si, LY_sj]; exact L0)) (by decide) rfl (Or.inl rfl)) ?_
  cases hf
  exact XR.retv rfl rfl (fun hret => ⟨_, hret, ⟨rfl, rfl⟩, (by simp only [LY_si, LY_sj]; exact L0)⟩)
def f_r_isAtHand (h : XH) : Option (Int32 × XH) := (if (hi h 1255 5) < 0 then (some (0, h)) else (if 64 ≤ (hi h 1255 5) then (some (0, h)) else (some (1, h))))
set_option maxRecDepth 20000 in
theorem kf_r_isAtHand {l : Launch} {G : XG} {d : Nat} {h : XH} {r : Int32 × XH} (L0 : LY h) (hf : f_r_isAtHand h = some r) : XC l G xEX8_isAtHand d [.ref 1255] h (fun v h2 => (h2 = r.2 ∧ v = some (.int r.1)) ∧ LY r.2) := by
  refine XC.virt xvX8_isAtHand (Nat.le_of_ble_eq_true rfl) ?_
  unfold f_r_isAtHand at hf
  refine XR.norm (L3 := [some (.ref 1255)]) rfl ?_
  refine XS.go (s_aloadn rfl rfl rfl) ?_
  refine XS.go (s_getie rfl xf8_31 (LY.lt L0 (by decide)) (LY.k1255 L0) (by decide) rfl rfl) ?_
  refine r_if_lt (tgt := 20) rfl rfl (fun qc1 => ?_) (fun qc1 => ?_)
  · replace hf := xi_pos hf qc1
    refine XS.go (s_iconst (v := 0) rfl rfl) ?_
    cases hf
    exact XR.retz rfl rfl (by decide) (fun hret => ⟨_, hret, ⟨rfl, rfl⟩, L0⟩)
  · replace hf := xi_neg hf qc1
    refine XS.go (s_aloadn rfl rfl rfl) ?_
    refine XS.go (s_getie rfl xf8_31 (LY.lt L0 (by decide)) (LY.k1255 L0) (by decide) rfl rfl) ?_
    refine XS.go (s_bipush (v := 64) rfl rfl) ?_
    refine r_icmp_ge (tgt := 20) rfl rfl (fun qc2 => ?_) (fun qc2 => ?_)
    · replace hf := xi_pos hf qc2
      refine XS.go (s_iconst (v := 0) rfl rfl) ?_
      cases hf
      exact XR.retz rfl rfl (by decide) (fun hret => ⟨_, hret, ⟨rfl, rfl⟩, L0⟩)
    · replace hf := xi_neg hf qc2
      refine XS.go (s_iconst (v := 1) rfl rfl) ?_
      refine XS.go (s_goto (tgt := 21) rfl rfl) ?_
      cases hf
      exact XR.retz rfl rfl (by decide) (fun hret => ⟨_, hret, ⟨rfl, rfl⟩, L0⟩)
def f_r_nodeKind (h : XH) : Option (Int32 × XH) := (Option.bind (f_r_isAtHand h) fun r1 => (if ¬ r1.1 = 0 then (if 0 ≤ (hi r1.2 1255 5) ∧ (hi r1.2 1255 5) < nI 64 then (if (hi r1.2 1258 (Int32.toNatClampNeg (hi r1.2 1255 5))) = 2 then (some (2, r1.2)) else (if (hi r1.2 1258 (Int32.toNatClampNeg (hi r1.2 1255 5))) = 3 then (some (1, r1.2)) else (if (hi r1.2 1258 (Int32.toNatClampNeg (hi r1.2 1255 5))) = 4 then (some (4, r1.2)) else (if (hi r1.2 1258 (Int32.toNatClampNeg (hi r1.2 1255 5))) = 5 then (some (3, r1.2)) else (some (4, r1.2)))))) else none) else (some ((-1), r1.2))))
set_option maxRecDepth 20000 in
theorem kf_r_nodeKind {l : Launch} {G : XG} {d : Nat} {h : XH} {r : Int32 × XH} (L0 : LY h) (hf : f_r_nodeKind h = some r) : XC l G xEX8_nodeKind (d + 1) [.ref 1255] h (fun v h2 => (h2 = r.2 ∧ v = some (.int r.1)) ∧ LY r.2) := by
  refine XC.virt xvX8_nodeKind (Nat.le_of_ble_eq_true rfl) ?_
  unfold f_r_nodeKind at hf
  refine XR.norm (L3 := [some (.ref 1255)]) rfl ?_
  refine XS.go (s_aloadn rfl rfl rfl) ?_
  replace hf := xb_some hf
  obtain ⟨r1, e2, hf⟩ := hf
  refine r_callv rfl xvX8_isAtHand xm8_77 (kf_r_isAtHand (d := d) L0 e2) (LY.lt L0 (by decide)) (LY.k1255 L0) (by decide) rfl rfl (dl0 (by decide)) (by decide) (Nat.le_of_ble_eq_true rfl) ?_
  rintro _ _ ⟨⟨rfl, rfl⟩, L3⟩
  refine r_if_ne (tgt := 9) rfl rfl (fun qc4 => ?_) (fun qc4 => ?_)
  · replace hf := xi_pos hf qc4
    refine XS.go (s_aloadn rfl rfl rfl) ?_
    refine XS.go (s_getr rfl xf8_18 (LY.lt L3 (by decide)) (LY.k1255 L3) (by decide) rfl (LY.r1255_1 L3)) ?_
    refine XS.go (s_aloadn rfl rfl rfl) ?_
    refine XS.go (s_getie rfl xf8_31 (LY.lt L3 (by decide)) (LY.k1255 L3) (by decide) rfl rfl) ?_
    replace hf := xi_none hf
    obtain ⟨qk5, hf⟩ := hf
    refine XS.go (s_ialde rfl (LY.lt L3 (by decide)) (LY.k1258 L3) (inLit (LY.n1258 L3) qk5.1 qk5.2 (by decide)) rfl) ?_
    by_cases qs6_0 : (hi r1.2 1258 (Int32.toNatClampNeg (hi r1.2 1255 5))) = 2
    · replace hf := xi_pos hf qs6_0
      refine XS.go (s_tswI (tgt := 50) rfl (by rw [qs6_0]; decide) (by rw [qs6_0]; decide) (by rw [qs6_0]; rfl) rfl) ?_
      refine XS.go (s_iconst (v := 2) rfl rfl) ?_
      cases hf
      exact XR.reti rfl rfl (fun hret => ⟨_, hret, ⟨rfl, rfl⟩, L3⟩)
    replace hf := xi_neg hf qs6_0
    by_cases qs6_1 : (hi r1.2 1258 (Int32.toNatClampNeg (hi r1.2 1255 5))) = 3
    · replace hf := xi_pos hf qs6_1
      refine XS.go (s_tswI (tgt := 48) rfl (by rw [qs6_1]; decide) (by rw [qs6_1]; decide) (by rw [qs6_1]; rfl) rfl) ?_
      refine XS.go (s_iconst (v := 1) rfl rfl) ?_
      cases hf
      exact XR.reti rfl rfl (fun hret => ⟨_, hret, ⟨rfl, rfl⟩, L3⟩)
    replace hf := xi_neg hf qs6_1
    by_cases qs6_2 : (hi r1.2 1258 (Int32.toNatClampNeg (hi r1.2 1255 5))) = 4
    · replace hf := xi_pos hf qs6_2
      refine XS.go (s_tswI (tgt := 54) rfl (by rw [qs6_2]; decide) (by rw [qs6_2]; decide) (by rw [qs6_2]; rfl) rfl) ?_
      refine XS.go (s_iconst (v := 4) rfl rfl) ?_
      cases hf
      exact XR.reti rfl rfl (fun hret => ⟨_, hret, ⟨rfl, rfl⟩, L3⟩)
    replace hf := xi_neg hf qs6_2
    by_cases qs6_3 : (hi r1.2 1258 (Int32.toNatClampNeg (hi r1.2 1255 5))) = 5
    · replace hf := xi_pos hf qs6_3
      refine XS.go (s_tswI (tgt := 52) rfl (by rw [qs6_3]; decide) (by rw [qs6_3]; decide) (by rw [qs6_3]; rfl) rfl) ?_
      refine XS.go (s_iconst (v := 3) rfl rfl) ?_
      cases hf
      exact XR.reti rfl rfl (fun hret => ⟨_, hret, ⟨rfl, rfl⟩, L3⟩)
    replace hf := xi_neg hf qs6_3
    have qs6_o : ((hi r1.2 1258 (Int32.toNatClampNeg (hi r1.2 1255 5)))).toInt < 2 ∨ 5 < ((hi r1.2 1258 (Int32.toNatClampNeg (hi r1.2 1255 5)))).toInt := by
      refine tsw_out 2 5 (by decide) ?_
      intro k h1 h2
      have z : k = 2 ∨ k = 3 ∨ k = 4 ∨ k = 5 := by omega
      rcases z with rfl | rfl | rfl | rfl
      · exact qs6_0
      · exact qs6_1
      · exact qs6_2
      · exact qs6_3
    refine XS.go (s_tswO (tgt := 54) rfl qs6_o rfl) ?_
    refine XS.go (s_iconst (v := 4) rfl rfl) ?_
    cases hf
    exact XR.reti rfl rfl (fun hret => ⟨_, hret, ⟨rfl, rfl⟩, L3⟩)
  · replace hf := xi_neg hf qc4
    refine XS.go (s_iconst (v := (-1)) rfl rfl) ?_
    cases hf
    exact XR.reti rfl rfl (fun hret => ⟨_, hret, ⟨rfl, rfl⟩, L3⟩)
def f_r_enter (a0 : Int32) (a1 : Int32) (a2 : Int32) (a3 : Int32) (h : XH) : Option (Int32 × XH) := (if ((hi h 1255 5) + 1) < 0 then (some ((-1), h)) else (if ((hi h 1255 5) + 1) < 64 then (Option.bind (f_r_nodeKind (hsi (hsi (hsi (hsi (hsi h 1255 5 ((hi h 1255 5) + 1)) 1258 (Int32.toNatClampNeg ((hi h 1255 5) + 1)) a0) 1259 (Int32.toNatClampNeg ((hi h 1255 5) + 1)) a1) 1260 (Int32.toNatClampNeg ((hi h 1255 5) + 1)) a2) 1261 (Int32.toNatClampNeg ((hi h 1255 5) + 1)) a3)) fun r3 => (some (r3.1, r3.2))) else (some ((-1), h))))
set_option maxRecDepth 20000 in
theorem kf_r_enter {l : Launch} {G : XG} {d : Nat} {a0 : Int32} {a1 : Int32} {a2 : Int32} {a3 : Int32} {h : XH} {r : Int32 × XH} (L0 : LY h) (hf : f_r_enter a0 a1 a2 a3 h = some r) : XC l G xEX8_enter (d + 2) [.ref 1255, .int a0, .int a1, .int a2, .int a3] h (fun v h2 => (h2 = r.2 ∧ v = some (.int r.1)) ∧ LY r.2) := by
  refine XC.virt xvX8_enter (Nat.le_of_ble_eq_true rfl) ?_
  unfold f_r_enter at hf
  refine XR.norm (L3 := [some (.ref 1255), some (.int a0), some (.int a1), some (.int a2), some (.int a3), none]) rfl ?_
  refine XS.go (s_aloadn rfl rfl rfl) ?_
  refine XS.go (s_getie rfl xf8_31 (LY.lt L0 (by decide)) (LY.k1255 L0) (by decide) rfl rfl) ?_
  refine XS.go (s_iconst (v := 1) rfl rfl) ?_
  refine XS.go (s_iadd rfl) ?_
  refine XS.go (XS.lcl (L3 := [some (.ref 1255), some (.int a0), some (.int a1), some (.int a2), some (.int a3), some (.int ((hi h 1255 5) + 1))]) (s_istore rfl (Nat.le_of_ble_eq_true rfl)) rfl) ?_
  refine XS.go (s_iload rfl rfl) ?_
  refine r_if_lt (tgt := 20) rfl rfl (fun qc1 => ?_) (fun qc1 => ?_)
  · replace hf := xi_pos hf qc1
    refine XS.go (s_iconst (v := (-1)) rfl rfl) ?_
    cases hf
    exact XR.reti rfl rfl (fun hret => ⟨_, hret, ⟨rfl, rfl⟩, L0⟩)
  · replace hf := xi_neg hf qc1
    refine XS.go (s_iload rfl rfl) ?_
    refine XS.go (s_bipush (v := 64) rfl rfl) ?_
    refine r_icmp_lt (tgt := 22) rfl rfl (fun qc2 => ?_) (fun qc2 => ?_)
    · replace hf := xi_pos hf qc2
      refine XS.go (s_aloadn rfl rfl rfl) ?_
      refine XS.go (s_iload rfl rfl) ?_
      refine XS.go (s_puti rfl xf8_31 (LY.lt L0 (by decide)) (LY.k1255 L0) (by decide) rfl (Or.inl rfl)) ?_
      refine XS.go (s_aloadn rfl rfl rfl) ?_
      refine XS.go (s_getr rfl xf8_18 (LY.lt (by simp only [LY_si, LY_sj]; exact L0) (by decide)) (LY.k1255 (by simp only [LY_si, LY_sj]; exact L0)) (by decide) rfl (LY.r1255_1 (by simp only [LY_si, LY_sj]; exact L0))) ?_
      refine XS.go (s_iload rfl rfl) ?_
      refine XS.go (s_iloadn rfl rfl rfl) ?_
      refine XS.go (s_iast rfl (LY.lt (by simp only [LY_si, LY_sj]; exact L0) (by decide)) (LY.k1258 (by simp only [LY_si, LY_sj]; exact L0)) (in_of (N := 64) (LY.n1258 (by simp only [LY_si, LY_sj]; exact L0)) (by decide) qc1 (Int32.not_le.mpr qc2))) ?_
      refine XS.go (s_aloadn rfl rfl rfl) ?_
      refine XS.go (s_getr rfl xf8_22 (LY.lt (by simp only [LY_si, LY_sj]; exact L0) (by decide)) (LY.k1255 (by simp only [LY_si, LY_sj]; exact L0)) (by decide) rfl (LY.r1255_2 (by simp only [LY_si, LY_sj]; exact L0))) ?_
      refine XS.go (s_iload rfl rfl) ?_
      refine XS.go (s_iloadn rfl rfl rfl) ?_
      refine XS.go (s_iast rfl (LY.lt (by simp only [LY_si, LY_sj]; exact L0) (by decide)) (LY.k1259 (by simp only [LY_si, LY_sj]; exact L0)) (in_of (N := 64) (LY.n1259 (by simp only [LY_si, LY_sj]; exact L0)) (by decide) qc1 (Int32.not_le.mpr qc2))) ?_
      refine XS.go (s_aloadn rfl rfl rfl) ?_
      refine XS.go (s_getr rfl xf8_25 (LY.lt (by simp only [LY_si, LY_sj]; exact L0) (by decide)) (LY.k1255 (by simp only [LY_si, LY_sj]; exact L0)) (by decide) rfl (LY.r1255_3 (by simp only [LY_si, LY_sj]; exact L0))) ?_
      refine XS.go (s_iload rfl rfl) ?_
      refine XS.go (s_iloadn rfl rfl rfl) ?_
      refine XS.go (s_iast rfl (LY.lt (by simp only [LY_si, LY_sj]; exact L0) (by decide)) (LY.k1260 (by simp only [LY_si, LY_sj]; exact L0)) (in_of (N := 64) (LY.n1260 (by simp only [LY_si, LY_sj]; exact L0)) (by decide) qc1 (Int32.not_le.mpr qc2))) ?_
      refine XS.go (s_aloadn rfl rfl rfl) ?_
      refine XS.go (s_getr rfl xf8_28 (LY.lt (by simp only [LY_si, LY_sj]; exact L0) (by decide)) (LY.k1255 (by simp only [LY_si, LY_sj]; exact L0)) (by decide) rfl (LY.r1255_4 (by simp only [LY_si, LY_sj]; exact L0))) ?_
      refine XS.go (s_iload rfl rfl) ?_
      refine XS.go (s_iload rfl rfl) ?_
      refine XS.go (s_iast rfl (LY.lt (by simp only [LY_si, LY_sj]; exact L0) (by decide)) (LY.k1261 (by simp only [LY_si, LY_sj]; exact L0)) (in_of (N := 64) (LY.n1261 (by simp only [LY_si, LY_sj]; exact L0)) (by decide) qc1 (Int32.not_le.mpr qc2))) ?_
      refine XS.go (s_aloadn rfl rfl rfl) ?_
      replace hf := xb_some hf
      obtain ⟨r3, e4, hf⟩ := hf
      refine r_callv rfl xvX8_nodeKind xm8_73 (kf_r_nodeKind (d := d) (by simp only [LY_si, LY_sj]; exact L0) e4) (LY.lt (by simp only [LY_si, LY_sj]; exact L0) (by decide)) (LY.k1255 (by simp only [LY_si, LY_sj]; exact L0)) (by decide) rfl rfl (dl (by decide)) (by decide) (Nat.le_of_ble_eq_true rfl) ?_
      rintro _ _ ⟨⟨rfl, rfl⟩, L5⟩
      cases hf
      exact XR.reti rfl rfl (fun hret => ⟨_, hret, ⟨rfl, rfl⟩, L5⟩)
    · replace hf := xi_neg hf qc2
      refine XS.go (s_iconst (v := (-1)) rfl rfl) ?_
      cases hf
      exact XR.reti rfl rfl (fun hret => ⟨_, hret, ⟨rfl, rfl⟩, L0⟩)
def f_r_goToRoot (a0 : Int32) (h : XH) : Option (Unit × XH) := (Option.bind (f_b_behind 1256 0 (hsi h 1255 5 (-1))) fun r1 => (Option.bind (f_r_enter 3 a0 (-1) r1.1 r1.2) fun r4 => (some ((), r4.2))))
set_option maxRecDepth 20000 in
theorem kf_r_goToRoot {l : Launch} {G : XG} {d : Nat} {a0 : Int32} {h : XH} {r : Unit × XH} (L0 : LY h) (hf : f_r_goToRoot a0 h = some r) : XC l G xEX8_goToRoot (d + 3) [.ref 1255, .int a0] h (fun v h2 => (h2 = r.2 ∧ v = none) ∧ LY r.2) := by
  refine XC.virt xvX8_goToRoot (Nat.le_of_ble_eq_true rfl) ?_
  unfold f_r_goToRoot at hf
  refine XR.norm (L3 := [some (.ref 1255), some (.int a0)]) rfl ?_
  refine XS.go (s_aloadn rfl rfl rfl) ?_
  refine XS.go (s_iconst (v := (-1)) rfl rfl) ?_
  refine XS.go (s_puti rfl xf8_31 (LY.lt L0 (by decide)) (LY.k1255 L0) (by decide) rfl (Or.inl rfl)) ?_
  refine XS.go (s_aloadn rfl rfl rfl) ?_
  refine XS.go (s_iconst (v := 3) rfl rfl) ?_
  refine XS.go (s_iloadn rfl rfl rfl) ?_
  refine XS.go (s_iconst (v := (-1)) rfl rfl) ?_
  refine XS.go (s_aloadn rfl rfl rfl) ?_
  refine XS.go (s_getr rfl xf8_12 (LY.lt (by simp only [LY_si, LY_sj]; exact L0) (by decide)) (LY.k1255 (by simp only [LY_si, LY_sj]; exact L0)) (by decide) rfl (LY.r1255_0 (by simp only [LY_si, LY_sj]; exact L0))) ?_
  refine XS.go (s_iconst (v := 0) rfl rfl) ?_
  replace hf := xb_some hf
  obtain ⟨r1, e2, hf⟩ := hf
  refine r_callv rfl xvX1_behind xm8_65 (kf_b_behind (d := d) (by simp only [LY_si, LY_sj]; exact L0) e2) (LY.lt (by simp only [LY_si, LY_sj]; exact L0) (by decide)) (LY.k1256 (by simp only [LY_si, LY_sj]; exact L0)) (by decide) rfl rfl (dl (by decide)) (by decide) (Nat.le_of_ble_eq_true rfl) ?_
  rintro _ _ ⟨⟨rfl, rfl⟩, L3⟩
  replace hf := xb_some hf
  obtain ⟨r4, e5, hf⟩ := hf
  refine r_callv rfl xvX8_enter xm8_69 (kf_r_enter (d := d) L3 e5) (LY.lt L3 (by decide)) (LY.k1255 L3) (by decide) rfl rfl (dl (by decide)) (by decide) (Nat.le_of_ble_eq_true rfl) ?_
  rintro _ _ ⟨⟨rfl, rfl⟩, L6⟩
  refine XS.go (s_pop rfl rfl) ?_
  cases hf
  exact XR.retv rfl rfl (fun hret => ⟨_, hret, ⟨rfl, rfl⟩, L6⟩)
def f_r_accept (a0 : Nat) (a1 : Int32) (a2 : Int32) (h : XH) : Option (Unit × XH) := (Option.bind (f_b_copy 1256 a0 0 0 a1 h) fun r1 => (Option.bind (f_r_goToRoot a2 (hsi r1.2 1256 1 a1)) fun r4 => (some ((), r4.2))))
set_option maxRecDepth 20000 in
theorem kf_r_accept {l : Launch} {G : XG} {d : Nat} {a0 : Nat} {a1 : Int32} {a2 : Int32} {h : XH} {r : Unit × XH} (L0 : LY h) (hf : f_r_accept a0 a1 a2 h = some r) : XC l G xEX8_accept (d + 4) [.ref 1255, .ref a0, .int a1, .int a2] h (fun v h2 => (h2 = r.2 ∧ v = none) ∧ LY r.2) := by
  refine XC.virt xvX8_accept (Nat.le_of_ble_eq_true rfl) ?_
  unfold f_r_accept at hf
  refine XR.norm (L3 := [some (.ref 1255), some (.ref a0), some (.int a1), some (.int a2)]) rfl ?_
  refine XS.go (s_aloadn rfl rfl rfl) ?_
  refine XS.go (s_getr rfl xf8_12 (LY.lt L0 (by decide)) (LY.k1255 L0) (by decide) rfl (LY.r1255_0 L0)) ?_
  refine XS.go (s_aloadn rfl rfl rfl) ?_
  refine XS.go (s_iconst (v := 0) rfl rfl) ?_
  refine XS.go (s_iconst (v := 0) rfl rfl) ?_
  refine XS.go (s_iloadn rfl rfl rfl) ?_
  replace hf := xb_some hf
  obtain ⟨r1, e2, hf⟩ := hf
  refine r_callv rfl xvX1_copy xm8_57 (kf_b_copy (d := d) L0 e2) (LY.lt L0 (by decide)) (LY.k1256 L0) (by decide) rfl rfl (dl (by decide)) (by decide) (Nat.le_of_ble_eq_true rfl) ?_
  rintro _ _ ⟨⟨rfl, rfl⟩, L3⟩
  refine XS.go (s_aloadn rfl rfl rfl) ?_
  refine XS.go (s_getr rfl xf8_12 (LY.lt L3 (by decide)) (LY.k1255 L3) (by decide) rfl (LY.r1255_0 L3)) ?_
  refine XS.go (s_iloadn rfl rfl rfl) ?_
  refine XS.go (s_puti rfl xf8_54 (LY.lt L3 (by decide)) (LY.k1256 L3) (by decide) rfl (Or.inl rfl)) ?_
  refine XS.go (s_aloadn rfl rfl rfl) ?_
  refine XS.go (s_iloadn rfl rfl rfl) ?_
  replace hf := xb_some hf
  obtain ⟨r4, e5, hf⟩ := hf
  refine r_callv rfl xvX8_goToRoot xm8_61 (kf_r_goToRoot (d := d) (by simp only [LY_si, LY_sj]; exact L3) e5) (LY.lt (by simp only [LY_si, LY_sj]; exact L3) (by decide)) (LY.k1255 (by simp only [LY_si, LY_sj]; exact L3)) (by decide) rfl rfl (dl (by decide)) (by decide) (Nat.le_of_ble_eq_true rfl) ?_
  rintro _ _ ⟨⟨rfl, rfl⟩, L6⟩
  cases hf
  exact XR.retv rfl rfl (fun hret => ⟨_, hret, ⟨rfl, rfl⟩, L6⟩)
def f_r_leave (h : XH) : Option (Int32 × XH) := (if 1 ≤ (hi h 1255 5) then (Option.bind (f_r_nodeKind (hsi h 1255 5 ((hi h 1255 5) - 1))) fun r2 => (some (r2.1, r2.2))) else (some ((-1), h)))
set_option maxRecDepth 20000 in
theorem kf_r_leave {l : Launch} {G : XG} {d : Nat} {h : XH} {r : Int32 × XH} (L0 : LY h) (hf : f_r_leave h = some r) : XC l G xEX8_leave (d + 2) [.ref 1255] h (fun v h2 => (h2 = r.2 ∧ v = some (.int r.1)) ∧ LY r.2) := by
  refine XC.virt xvX8_leave (Nat.le_of_ble_eq_true rfl) ?_
  unfold f_r_leave at hf
  refine XR.norm (L3 := [some (.ref 1255)]) rfl ?_
  refine XS.go (s_aloadn rfl rfl rfl) ?_
  refine XS.go (s_getie rfl xf8_31 (LY.lt L0 (by decide)) (LY.k1255 L0) (by decide) rfl rfl) ?_
  refine XS.go (s_iconst (v := 1) rfl rfl) ?_
  refine r_icmp_ge (tgt := 10) rfl rfl (fun qc1 => ?_) (fun qc1 => ?_)
  · replace hf := xi_pos hf qc1
    refine XS.go (s_aloadn rfl rfl rfl) ?_
    refine XS.go (s_dup rfl rfl) ?_
    refine XS.go (s_getie rfl xf8_31 (LY.lt L0 (by decide)) (LY.k1255 L0) (by decide) rfl rfl) ?_
    refine XS.go (s_iconst (v := 1) rfl rfl) ?_
    refine XS.go (s_isub rfl) ?_
    refine XS.go (s_puti rfl xf8_31 (LY.lt L0 (by decide)) (LY.k1255 L0) (by decide) rfl (Or.inl rfl)) ?_
    refine XS.go (s_aloadn rfl rfl rfl) ?_
    replace hf := xb_some hf
    obtain ⟨r2, e3, hf⟩ := hf
    refine r_callv rfl xvX8_nodeKind xm8_73 (kf_r_nodeKind (d := d) (by simp only [LY_si, LY_sj]; exact L0) e3) (LY.lt (by simp only [LY_si, LY_sj]; exact L0) (by decide)) (LY.k1255 (by simp only [LY_si, LY_sj]; exact L0)) (by decide) rfl rfl (dl (by decide)) (by decide) (Nat.le_of_ble_eq_true rfl) ?_
    rintro _ _ ⟨⟨rfl, rfl⟩, L4⟩
    cases hf
    exact XR.reti rfl rfl (fun hret => ⟨_, hret, ⟨rfl, rfl⟩, L4⟩)
  · replace hf := xi_neg hf qc1
    refine XS.go (s_iconst (v := (-1)) rfl rfl) ?_
    cases hf
    exact XR.reti rfl rfl (fun hret => ⟨_, hret, ⟨rfl, rfl⟩, L0⟩)
def b_r_definitionAtHand_51 (y0 : Option Nat) (h : XH) : Option (Option Nat × XH) := (some (y0, h))
set_option maxRecDepth 20000 in
theorem kb_r_definitionAtHand_51 {l : Launch} {G : XG} {d : Nat} {y0 : Option Nat} {h : XH} {r : Option Nat × XH} (L0 : LY h) (hf : b_r_definitionAtHand_51 y0 h = some r) : XR l G xEX8_definitionAtHand (d + 1) (51, [none, none, none], [(va_rf y0)], h) (fun C => ∃ v, xRet xEX8_definitionAtHand C v ∧ (C.2.2.2 = r.2 ∧ v = some (va_rf r.1)) ∧ LY r.2) := by
  unfold b_r_definitionAtHand_51 at hf
  cases hf
  exact XR.reta (o := y0) rfl rfl (fun hret => ⟨_, hret, ⟨rfl, rfl⟩, L0⟩)
def f_r_definitionAtHand (a0 : Nat) (h : XH) : Option (Option Nat × XH) := (Option.bind (f_r_isAtHand h) fun r1 => (if ¬ r1.1 = 0 then (if 0 ≤ (hi r1.2 1255 5) ∧ (hi r1.2 1255 5) < nI 64 then (if ¬ (hi r1.2 1258 (Int32.toNatClampNeg (hi r1.2 1255 5))) = 3 then (if a0 < hz r1.2 ∧ hk r1.2 a0 = 9 then (Option.bind (hr r1.2 a0 0) fun b8 => (if b8 < hz r1.2 ∧ hk r1.2 b8 = 4 then (Option.bind (f_g_at b8 (hi r1.2 1259 (Int32.toNatClampNeg (hi r1.2 1255 5))) r1.2) fun r11 => (b_r_definitionAtHand_51 r11.1 r11.2)) else none)) else none) else (if a0 < hz r1.2 ∧ hk r1.2 a0 = 9 then (Option.bind (hr r1.2 a0 1) fun b15 => (if b15 < hz r1.2 ∧ hk r1.2 b15 = 4 then (Option.bind (f_g_at b15 (hi r1.2 1259 (Int32.toNatClampNeg (hi r1.2 1255 5))) r1.2) fun r18 => (b_r_definitionAtHand_51 r18.1 r18.2)) else none)) else none)) else none) else (some (none, r1.2))))
set_option maxRecDepth 20000 in
theorem kf_r_definitionAtHand {l : Launch} {G : XG} {d : Nat} {a0 : Nat} {h : XH} {r : Option Nat × XH} (L0 : LY h) (hf : f_r_definitionAtHand a0 h = some r) : XC l G xEX8_definitionAtHand (d + 1) [.ref 1255, .ref a0] h (fun v h2 => (h2 = r.2 ∧ v = some (va_rf r.1)) ∧ LY r.2) := by
  refine XC.virt xvX8_definitionAtHand (Nat.le_of_ble_eq_true rfl) ?_
  unfold f_r_definitionAtHand at hf
  refine XR.norm (L3 := [some (.ref 1255), some (.ref a0), none]) rfl ?_
  refine XS.go (s_aloadn rfl rfl rfl) ?_
  replace hf := xb_some hf
  obtain ⟨r1, e2, hf⟩ := hf
  refine r_callv rfl xvX8_isAtHand xm8_77 (kf_r_isAtHand (d := d) L0 e2) (LY.lt L0 (by decide)) (LY.k1255 L0) (by decide) rfl rfl (dl0 (by decide)) (by decide) (Nat.le_of_ble_eq_true rfl) ?_
  rintro _ _ ⟨⟨rfl, rfl⟩, L3⟩
  refine r_if_ne (tgt := 9) rfl rfl (fun qc4 => ?_) (fun qc4 => ?_)
  · replace hf := xi_pos hf qc4
    refine XS.go (s_aloadn rfl rfl rfl) ?_
    refine XS.go (s_getr rfl xf8_22 (LY.lt L3 (by decide)) (LY.k1255 L3) (by decide) rfl (LY.r1255_2 L3)) ?_
    refine XS.go (s_aloadn rfl rfl rfl) ?_
    refine XS.go (s_getie rfl xf8_31 (LY.lt L3 (by decide)) (LY.k1255 L3) (by decide) rfl rfl) ?_
    replace hf := xi_none hf
    obtain ⟨qk5, hf⟩ := hf
    refine XS.go (s_ialde rfl (LY.lt L3 (by decide)) (LY.k1259 L3) (inLit (LY.n1259 L3) qk5.1 qk5.2 (by decide)) rfl) ?_
    refine XS.go (XS.lcl (L3 := [some (.ref 1255), some (.ref a0), some (.int (hi r1.2 1259 (Int32.toNatClampNeg (hi r1.2 1255 5))))]) (s_istoren rfl rfl (Nat.le_of_ble_eq_true rfl)) rfl) ?_
    refine XS.go (s_aloadn rfl rfl rfl) ?_
    refine XS.go (s_getr rfl xf8_18 (LY.lt L3 (by decide)) (LY.k1255 L3) (by decide) rfl (LY.r1255_1 L3)) ?_
    refine XS.go (s_aloadn rfl rfl rfl) ?_
    refine XS.go (s_getie rfl xf8_31 (LY.lt L3 (by decide)) (LY.k1255 L3) (by decide) rfl rfl) ?_
    refine XS.go (s_ialde rfl (LY.lt L3 (by decide)) (LY.k1258 L3) (inLit (LY.n1258 L3) qk5.1 qk5.2 (by decide)) rfl) ?_
    refine XS.go (s_iconst (v := 3) rfl rfl) ?_
    refine r_icmp_ne (tgt := 43) rfl rfl (fun qc6 => ?_) (fun qc6 => ?_)
    · replace hf := xi_pos hf qc6
      refine XS.go (s_aloadn rfl rfl rfl) ?_
      replace hf := xi_none hf
      obtain ⟨qk7, hf⟩ := hf
      replace hf := xb_some hf
      obtain ⟨b8, qr9, hf⟩ := hf
      refine XS.go (s_getr rfl xf8_97 qk7.1 qk7.2 (by decide) rfl qr9) ?_
      refine XS.go (s_iloadn rfl rfl rfl) ?_
      replace hf := xi_none hf
      obtain ⟨qk10, hf⟩ := hf
      replace hf := xb_some hf
      obtain ⟨r11, e12, hf⟩ := hf
      refine r_callv rfl xvX4_at xm8_91 (kf_g_at (d := d) L3 e12) qk10.1 qk10.2 (by decide) rfl rfl (dl0 (by decide)) (by decide) (Nat.le_of_ble_eq_true rfl) ?_
      rintro _ _ ⟨⟨rfl, rfl⟩, L13⟩
      exact XR.forget (L2 := [none, none, none]) trivial (kb_r_definitionAtHand_51 L13 hf)
    · replace hf := xi_neg hf qc6
      refine XS.go (s_aloadn rfl rfl rfl) ?_
      replace hf := xi_none hf
      obtain ⟨qk14, hf⟩ := hf
      replace hf := xb_some hf
      obtain ⟨b15, qr16, hf⟩ := hf
      refine XS.go (s_getr rfl xf8_85 qk14.1 qk14.2 (by decide) rfl qr16) ?_
      refine XS.go (s_iloadn rfl rfl rfl) ?_
      replace hf := xi_none hf
      obtain ⟨qk17, hf⟩ := hf
      replace hf := xb_some hf
      obtain ⟨r18, e19, hf⟩ := hf
      refine r_callv rfl xvX4_at xm8_91 (kf_g_at (d := d) L3 e19) qk17.1 qk17.2 (by decide) rfl rfl (dl0 (by decide)) (by decide) (Nat.le_of_ble_eq_true rfl) ?_
      rintro _ _ ⟨⟨rfl, rfl⟩, L20⟩
      refine XS.go (s_goto (tgt := 51) rfl rfl) ?_
      exact XR.forget (L2 := [none, none, none]) trivial (kb_r_definitionAtHand_51 L20 hf)
  · replace hf := xi_neg hf qc4
    refine XS.go (s_null rfl) ?_
    cases hf
    exact XR.reta (o := none) rfl rfl (fun hret => ⟨_, hret, ⟨rfl, rfl⟩, L3⟩)
def b_r_partCount_35 (h : XH) : Option (Int32 × XH) := (if 0 ≤ (hi h 1255 5) ∧ (hi h 1255 5) < nI 64 then (Option.bind (f_b_number 1256 (hi h 1261 (Int32.toNatClampNeg (hi h 1255 5))) 4 h) fun r2 => (some ((Int64.toInt32 r2.1), r2.2))) else none)
set_option maxRecDepth 20000 in
theorem kb_r_partCount_35 {l : Launch} {G : XG} {d : Nat} {h : XH} {r : Int32 × XH} (L0 : LY h) (hf : b_r_partCount_35 h = some r) : XR l G xEX8_partCount (d + 2) (35, [some (.ref 1255), none, none], [], h) (fun C => ∃ v, xRet xEX8_partCount C v ∧ (C.2.2.2 = r.2 ∧ v = some (.int r.1)) ∧ LY r.2) := by
  unfold b_r_partCount_35 at hf
  refine XS.go (s_aloadn rfl rfl rfl) ?_
  refine XS.go (s_getr rfl xf8_12 (LY.lt L0 (by decide)) (LY.k1255 L0) (by decide) rfl (LY.r1255_0 L0)) ?_
  refine XS.go (s_aloadn rfl rfl rfl) ?_
  refine XS.go (s_getr rfl xf8_28 (LY.lt L0 (by decide)) (LY.k1255 L0) (by decide) rfl (LY.r1255_4 L0)) ?_
  refine XS.go (s_aloadn rfl rfl rfl) ?_
  refine XS.go (s_getie rfl xf8_31 (LY.lt L0 (by decide)) (LY.k1255 L0) (by decide) rfl rfl) ?_
  replace hf := xi_none hf
  obtain ⟨qk1, hf⟩ := hf
  refine XS.go (s_ialde rfl (LY.lt L0 (by decide)) (LY.k1261 L0) (inLit (LY.n1261 L0) qk1.1 qk1.2 (by decide)) rfl) ?_
  refine XS.go (s_iconst (v := 4) rfl rfl) ?_
  replace hf := xb_some hf
  obtain ⟨r2, e3, hf⟩ := hf
  refine r_callv rfl xvX1_number xm8_100 (kf_b_number (d := d) L0 e3) (LY.lt L0 (by decide)) (LY.k1256 L0) (by decide) rfl rfl (dl0 (by decide)) (by decide) (Nat.le_of_ble_eq_true rfl) ?_
  rintro _ _ ⟨⟨rfl, rfl⟩, L4⟩
  refine XS.go (s_l2i rfl) ?_
  cases hf
  exact XR.reti rfl rfl (fun hret => ⟨_, hret, ⟨rfl, rfl⟩, L4⟩)
def f_r_partCount (a0 : Nat) (h : XH) : Option (Int32 × XH) := (Option.bind (f_r_isAtHand h) fun r5 => (if ¬ r5.1 = 0 then (if 0 ≤ (hi r5.2 1255 5) ∧ (hi r5.2 1255 5) < nI 64 then (if (hi r5.2 1258 (Int32.toNatClampNeg (hi r5.2 1255 5))) = 5 then (b_r_partCount_35 r5.2) else (if ¬ (hi r5.2 1258 (Int32.toNatClampNeg (hi r5.2 1255 5))) = 1 then (Option.bind (f_r_definitionAtHand a0 r5.2) fun r12 => (Option.elim (r12.1) (some (0, r12.2)) fun b16 => (if b16 < hz r12.2 ∧ hk r12.2 b16 = 2 then (some ((hi r12.2 b16 3), r12.2)) else none))) else (b_r_partCount_35 r5.2))) else none) else (some (0, r5.2))))
set_option maxRecDepth 20000 in
theorem kf_r_partCount {l : Launch} {G : XG} {d : Nat} {a0 : Nat} {h : XH} {r : Int32 × XH} (L0 : LY h) (hf : f_r_partCount a0 h = some r) : XC l G xEX8_partCount (d + 2) [.ref 1255, .ref a0] h (fun v h2 => (h2 = r.2 ∧ v = some (.int r.1)) ∧ LY r.2) := by
  refine XC.virt xvX8_partCount (Nat.le_of_ble_eq_true rfl) ?_
  unfold f_r_partCount at hf
  refine XR.norm (L3 := [some (.ref 1255), some (.ref a0), none]) rfl ?_
  refine XS.go (s_aloadn rfl rfl rfl) ?_
  replace hf := xb_some hf
  obtain ⟨r5, e6, hf⟩ := hf
  refine r_callv rfl xvX8_isAtHand xm8_77 (kf_r_isAtHand (d := d) L0 e6) (LY.lt L0 (by decide)) (LY.k1255 L0) (by decide) rfl rfl (dl0 (by decide)) (by decide) (Nat.le_of_ble_eq_true rfl) ?_
  rintro _ _ ⟨⟨rfl, rfl⟩, L7⟩
  refine r_if_ne (tgt := 9) rfl rfl (fun qc8 => ?_) (fun qc8 => ?_)
  · replace hf := xi_pos hf qc8
    refine XS.go (s_aloadn rfl rfl rfl) ?_
    refine XS.go (s_getr rfl xf8_18 (LY.lt L7 (by decide)) (LY.k1255 L7) (by decide) rfl (LY.r1255_1 L7)) ?_
    refine XS.go (s_aloadn rfl rfl rfl) ?_
    refine XS.go (s_getie rfl xf8_31 (LY.lt L7 (by decide)) (LY.k1255 L7) (by decide) rfl rfl) ?_
    replace hf := xi_none hf
    obtain ⟨qk9, hf⟩ := hf
    refine XS.go (s_ialde rfl (LY.lt L7 (by decide)) (LY.k1258 L7) (inLit (LY.n1258 L7) qk9.1 qk9.2 (by decide)) rfl) ?_
    refine XS.go (s_iconst (v := 5) rfl rfl) ?_
    refine r_icmp_eq (tgt := 35) rfl rfl (fun qc10 => ?_) (fun qc10 => ?_)
    · replace hf := xi_pos hf qc10
      exact XR.forget (L2 := [some (.ref 1255), none, none]) ⟨rfl, trivial⟩ (kb_r_partCount_35 L7 hf)
    · replace hf := xi_neg hf qc10
      refine XS.go (s_aloadn rfl rfl rfl) ?_
      refine XS.go (s_getr rfl xf8_18 (LY.lt L7 (by decide)) (LY.k1255 L7) (by decide) rfl (LY.r1255_1 L7)) ?_
      refine XS.go (s_aloadn rfl rfl rfl) ?_
      refine XS.go (s_getie rfl xf8_31 (LY.lt L7 (by decide)) (LY.k1255 L7) (by decide) rfl rfl) ?_
      refine XS.go (s_ialde rfl (LY.lt L7 (by decide)) (LY.k1258 L7) (inLit (LY.n1258 L7) qk9.1 qk9.2 (by decide)) rfl) ?_
      refine XS.go (s_iconst (v := 1) rfl rfl) ?_
      refine r_icmp_ne (tgt := 54) rfl rfl (fun qc11 => ?_) (fun qc11 => ?_)
      · replace hf := xi_pos hf qc11
        refine XS.go (s_aloadn rfl rfl rfl) ?_
        refine XS.go (s_aloadn rfl rfl rfl) ?_
        replace hf := xb_some hf
        obtain ⟨r12, e13, hf⟩ := hf
        refine r_callv rfl xvX8_definitionAtHand xm8_104 (kf_r_definitionAtHand (d := d) L7 e13) (LY.lt L7 (by decide)) (LY.k1255 L7) (by decide) rfl rfl (dl (by decide)) (by decide) (Nat.le_of_ble_eq_true rfl) ?_
        rintro _ _ ⟨⟨rfl, rfl⟩, L14⟩
        refine XS.go (XS.lcl (L3 := [some (.ref 1255), some (.ref a0), some (va_rf r12.1)]) (s_astorenO rfl rfl (Nat.le_of_ble_eq_true rfl)) rfl) ?_
        refine XS.go (s_aloadnO rfl rfl rfl) ?_
        refine r_ifnonnull (tgt := 68) rfl rfl (fun qn15 => ?_) (fun b16 qn15 => ?_)
        · replace hf := xo_none hf qn15
          try rw [qn15]
          refine XS.go (s_iconst (v := 0) rfl rfl) ?_
          refine XS.go (s_goto (tgt := 72) rfl rfl) ?_
          cases hf
          exact XR.reti rfl rfl (fun hret => ⟨_, hret, ⟨rfl, rfl⟩, L14⟩)
        · replace hf := xo_some hf qn15
          try rw [qn15]
          refine XS.go (s_aloadn rfl rfl rfl) ?_
          replace hf := xi_none hf
          obtain ⟨qk17, hf⟩ := hf
          refine XS.go (s_getie rfl xf8_108 qk17.1 qk17.2 (by decide) rfl rfl) ?_
          cases hf
          exact XR.reti rfl rfl (fun hret => ⟨_, hret, ⟨rfl, rfl⟩, L14⟩)
      · replace hf := xi_neg hf qc11
        exact XR.forget (L2 := [some (.ref 1255), none, none]) ⟨rfl, trivial⟩ (kb_r_partCount_35 L7 hf)
  · replace hf := xi_neg hf qc8
    refine XS.go (s_iconst (v := 0) rfl rfl) ?_
    cases hf
    exact XR.reti rfl rfl (fun hret => ⟨_, hret, ⟨rfl, rfl⟩, L7⟩)
def f_r_tell (a0 : Nat) (a1 : Int32) (h : XH) : Option (Int32 × XH) := (Option.bind (f_r_isAtHand h) fun r1 => (if ¬ r1.1 = 0 then (if a1 = 0 then (Option.bind (f_r_nodeKind r1.2) fun r6 => (some (r6.1, r6.2))) else (if a1 = 1 then (if 0 ≤ (hi r1.2 1255 5) ∧ (hi r1.2 1255 5) < nI 64 then (some ((hi r1.2 1259 (Int32.toNatClampNeg (hi r1.2 1255 5))), r1.2)) else none) else (if a1 = 2 then (if 0 ≤ (hi r1.2 1255 5) ∧ (hi r1.2 1255 5) < nI 64 then (some ((hi r1.2 1261 (Int32.toNatClampNeg (hi r1.2 1255 5))), r1.2)) else none) else (if a1 = 3 then (Option.bind (f_r_partCount a0 r1.2) fun r11 => (some (r11.1, r11.2))) else (if a1 = 4 then (some ((hi r1.2 1255 5), r1.2)) else (some ((-1), r1.2))))))) else (some ((-1), r1.2))))
set_option maxRecDepth 20000 in
theorem kf_r_tell {l : Launch} {G : XG} {d : Nat} {a0 : Nat} {a1 : Int32} {h : XH} {r : Int32 × XH} (L0 : LY h) (hf : f_r_tell a0 a1 h = some r) : XC l G xEX8_tell (d + 3) [.ref 1255, .ref a0, .int a1] h (fun v h2 => (h2 = r.2 ∧ v = some (.int r.1)) ∧ LY r.2) := by
  refine XC.virt xvX8_tell (Nat.le_of_ble_eq_true rfl) ?_
  unfold f_r_tell at hf
  refine XR.norm (L3 := [some (.ref 1255), some (.ref a0), some (.int a1)]) rfl ?_
  refine XS.go (s_aloadn rfl rfl rfl) ?_
  replace hf := xb_some hf
  obtain ⟨r1, e2, hf⟩ := hf
  refine r_callv rfl xvX8_isAtHand xm8_77 (kf_r_isAtHand (d := d) L0 e2) (LY.lt L0 (by decide)) (LY.k1255 L0) (by decide) rfl rfl (dl0 (by decide)) (by decide) (Nat.le_of_ble_eq_true rfl) ?_
  rintro _ _ ⟨⟨rfl, rfl⟩, L3⟩
  refine r_if_ne (tgt := 9) rfl rfl (fun qc4 => ?_) (fun qc4 => ?_)
  · replace hf := xi_pos hf qc4
    refine XS.go (s_iloadn rfl rfl rfl) ?_
    by_cases qs5_0 : a1 = 0
    · replace hf := xi_pos hf qs5_0
      refine XS.go (s_tswI (tgt := 44) rfl (by rw [qs5_0]; decide) (by rw [qs5_0]; decide) (by rw [qs5_0]; rfl) rfl) ?_
      refine XS.go (s_aloadn rfl rfl rfl) ?_
      replace hf := xb_some hf
      obtain ⟨r6, e7, hf⟩ := hf
      refine r_callv rfl xvX8_nodeKind xm8_73 (kf_r_nodeKind (d := d) L3 e7) (LY.lt L3 (by decide)) (LY.k1255 L3) (by decide) rfl rfl (dl (by decide)) (by decide) (Nat.le_of_ble_eq_true rfl) ?_
      rintro _ _ ⟨⟨rfl, rfl⟩, L8⟩
      cases hf
      exact XR.reti rfl rfl (fun hret => ⟨_, hret, ⟨rfl, rfl⟩, L8⟩)
    replace hf := xi_neg hf qs5_0
    by_cases qs5_1 : a1 = 1
    · replace hf := xi_pos hf qs5_1
      refine XS.go (s_tswI (tgt := 49) rfl (by rw [qs5_1]; decide) (by rw [qs5_1]; decide) (by rw [qs5_1]; rfl) rfl) ?_
      refine XS.go (s_aloadn rfl rfl rfl) ?_
      refine XS.go (s_getr rfl xf8_22 (LY.lt L3 (by decide)) (LY.k1255 L3) (by decide) rfl (LY.r1255_2 L3)) ?_
      refine XS.go (s_aloadn rfl rfl rfl) ?_
      refine XS.go (s_getie rfl xf8_31 (LY.lt L3 (by decide)) (LY.k1255 L3) (by decide) rfl rfl) ?_
      replace hf := xi_none hf
      obtain ⟨qk9, hf⟩ := hf
      refine XS.go (s_ialde rfl (LY.lt L3 (by decide)) (LY.k1259 L3) (inLit (LY.n1259 L3) qk9.1 qk9.2 (by decide)) rfl) ?_
      cases hf
      exact XR.reti rfl rfl (fun hret => ⟨_, hret, ⟨rfl, rfl⟩, L3⟩)
    replace hf := xi_neg hf qs5_1
    by_cases qs5_2 : a1 = 2
    · replace hf := xi_pos hf qs5_2
      refine XS.go (s_tswI (tgt := 59) rfl (by rw [qs5_2]; decide) (by rw [qs5_2]; decide) (by rw [qs5_2]; rfl) rfl) ?_
      refine XS.go (s_aloadn rfl rfl rfl) ?_
      refine XS.go (s_getr rfl xf8_28 (LY.lt L3 (by decide)) (LY.k1255 L3) (by decide) rfl (LY.r1255_4 L3)) ?_
      refine XS.go (s_aloadn rfl rfl rfl) ?_
      refine XS.go (s_getie rfl xf8_31 (LY.lt L3 (by decide)) (LY.k1255 L3) (by decide) rfl rfl) ?_
      replace hf := xi_none hf
      obtain ⟨qk10, hf⟩ := hf
      refine XS.go (s_ialde rfl (LY.lt L3 (by decide)) (LY.k1261 L3) (inLit (LY.n1261 L3) qk10.1 qk10.2 (by decide)) rfl) ?_
      cases hf
      exact XR.reti rfl rfl (fun hret => ⟨_, hret, ⟨rfl, rfl⟩, L3⟩)
    replace hf := xi_neg hf qs5_2
    by_cases qs5_3 : a1 = 3
    · replace hf := xi_pos hf qs5_3
      refine XS.go (s_tswI (tgt := 69) rfl (by rw [qs5_3]; decide) (by rw [qs5_3]; decide) (by rw [qs5_3]; rfl) rfl) ?_
      refine XS.go (s_aloadn rfl rfl rfl) ?_
      refine XS.go (s_aloadn rfl rfl rfl) ?_
      replace hf := xb_some hf
      obtain ⟨r11, e12, hf⟩ := hf
      refine r_callv rfl xvX8_partCount xm8_81 (kf_r_partCount (d := d) L3 e12) (LY.lt L3 (by decide)) (LY.k1255 L3) (by decide) rfl rfl (dl (by decide)) (by decide) (Nat.le_of_ble_eq_true rfl) ?_
      rintro _ _ ⟨⟨rfl, rfl⟩, L13⟩
      cases hf
      exact XR.reti rfl rfl (fun hret => ⟨_, hret, ⟨rfl, rfl⟩, L13⟩)
    replace hf := xi_neg hf qs5_3
    by_cases qs5_4 : a1 = 4
    · replace hf := xi_pos hf qs5_4
      refine XS.go (s_tswI (tgt := 75) rfl (by rw [qs5_4]; decide) (by rw [qs5_4]; decide) (by rw [qs5_4]; rfl) rfl) ?_
      refine XS.go (s_aloadn rfl rfl rfl) ?_
      refine XS.go (s_getie rfl xf8_31 (LY.lt L3 (by decide)) (LY.k1255 L3) (by decide) rfl rfl) ?_
      cases hf
      exact XR.reti rfl rfl (fun hret => ⟨_, hret, ⟨rfl, rfl⟩, L3⟩)
    replace hf := xi_neg hf qs5_4
    have qs5_o : (a1).toInt < 0 ∨ 4 < (a1).toInt := by
      refine tsw_out 0 4 (by decide) ?_
      intro k h1 h2
      have z : k = 0 ∨ k = 1 ∨ k = 2 ∨ k = 3 ∨ k = 4 := by omega
      rcases z with rfl | rfl | rfl | rfl | rfl
      · exact qs5_0
      · exact qs5_1
      · exact qs5_2
      · exact qs5_3
      · exact qs5_4
    refine XS.go (s_tswO (tgt := 80) rfl qs5_o rfl) ?_
    refine XS.go (s_iconst (v := (-1)) rfl rfl) ?_
    cases hf
    exact XR.reti rfl rfl (fun hret => ⟨_, hret, ⟨rfl, rfl⟩, L3⟩)
  · replace hf := xi_neg hf qc4
    refine XS.go (s_iconst (v := (-1)) rfl rfl) ?_
    cases hf
    exact XR.reti rfl rfl (fun hret => ⟨_, hret, ⟨rfl, rfl⟩, L3⟩)
def b_t_fieldOf_13 (y0 : Option Nat) (h : XH) : Option (Option Nat × XH) := (some (y0, h))
set_option maxRecDepth 20000 in
theorem kb_t_fieldOf_13 {l : Launch} {G : XG} {d : Nat} {y0 : Option Nat} {h : XH} {r : Option Nat × XH} (L0 : LY h) (hf : b_t_fieldOf_13 y0 h = some r) : XR l G xEX11_fieldOf (d + 1) (13, [none, none], [(va_rf y0)], h) (fun C => ∃ v, xRet xEX11_fieldOf C v ∧ (C.2.2.2 = r.2 ∧ v = some (va_rf r.1)) ∧ LY r.2) := by
  unfold b_t_fieldOf_13 at hf
  cases hf
  exact XR.reta (o := y0) rfl rfl (fun hret => ⟨_, hret, ⟨rfl, rfl⟩, L0⟩)
def f_t_fieldOf (a0 : Option Nat) (a1 : Int32) (h : XH) : Option (Option Nat × XH) := (Option.elim (a0) (b_t_fieldOf_13 none h) fun b2 => (if b2 < hz h ∧ hk h b2 = 2 then (Option.bind (f_d_fieldAt b2 a1 h) fun r4 => (b_t_fieldOf_13 r4.1 r4.2)) else none))
set_option maxRecDepth 20000 in
theorem kf_t_fieldOf {l : Launch} {G : XG} {d : Nat} {a0 : Option Nat} {a1 : Int32} {h : XH} {r : Option Nat × XH} (L0 : LY h) (hf : f_t_fieldOf a0 a1 h = some r) : XC l G xEX11_fieldOf (d + 1) [va_rf a0, .int a1] h (fun v h2 => (h2 = r.2 ∧ v = some (va_rf r.1)) ∧ LY r.2) := by
  refine XC.stat xsX11_fieldOf (by cases a0 <;> exact Nat.le_of_ble_eq_true rfl) ?_
  unfold f_t_fieldOf at hf
  refine XR.norm (L3 := [some (va_rf a0), some (.int a1)]) (by cases a0 <;> rfl) ?_
  refine XS.go (s_aloadnO rfl rfl rfl) ?_
  refine r_ifnonnull (tgt := 8) rfl rfl (fun qn1 => ?_) (fun b2 qn1 => ?_)
  · replace hf := xo_none hf qn1
    try rw [qn1]
    refine XS.go (s_null rfl) ?_
    refine XS.go (s_goto (tgt := 13) rfl rfl) ?_
    exact XR.forget (L2 := [none, none]) trivial (kb_t_fieldOf_13 L0 hf)
  · replace hf := xo_some hf qn1
    try rw [qn1]
    refine XS.go (s_aloadn rfl rfl rfl) ?_
    refine XS.go (s_iloadn rfl rfl rfl) ?_
    replace hf := xi_none hf
    obtain ⟨qk3, hf⟩ := hf
    replace hf := xb_some hf
    obtain ⟨r4, e5, hf⟩ := hf
    refine r_callv rfl xvX2_fieldAt xm11_189 (kf_d_fieldAt (d := d) L0 e5) qk3.1 qk3.2 (by decide) rfl rfl (dl0 (by decide)) (by decide) (Nat.le_of_ble_eq_true rfl) ?_
    rintro _ _ ⟨⟨rfl, rfl⟩, L6⟩
    exact XR.forget (L2 := [none, none]) trivial (kb_t_fieldOf_13 L6 hf)
def f_r_found (a0 : Int32) (a1 : Int32) (a2 : Int32) (a3 : Int32) (h : XH) : Option (Unit × XH) := (some ((), (hsi (hsj (hsi (hsi (hsi (hsi h 1255 6 a0) 1255 7 a1) 1255 9 a2) 1255 8 a3) 1255 10 (0 : Int64)) 1255 11 0)))
set_option maxRecDepth 20000 in
theorem kf_r_found {l : Launch} {G : XG} {d : Nat} {a0 : Int32} {a1 : Int32} {a2 : Int32} {a3 : Int32} {h : XH} {r : Unit × XH} (L0 : LY h) (hf : f_r_found a0 a1 a2 a3 h = some r) : XC l G xEX8_found d [.ref 1255, .int a0, .int a1, .int a2, .int a3] h (fun v h2 => (h2 = r.2 ∧ v = none) ∧ LY r.2) := by
  refine XC.virt xvX8_found (Nat.le_of_ble_eq_true rfl) ?_
  unfold f_r_found at hf
  refine XR.norm (L3 := [some (.ref 1255), some (.int a0), some (.int a1), some (.int a2), some (.int a3)]) rfl ?_
  refine XS.go (s_aloadn rfl rfl rfl) ?_
  refine XS.go (s_iloadn rfl rfl rfl) ?_
  refine XS.go (s_puti rfl xf8_35 (LY.lt L0 (by decide)) (LY.k1255 L0) (by decide) rfl (Or.inl rfl)) ?_
  refine XS.go (s_aloadn rfl rfl rfl) ?_
  refine XS.go (s_iloadn rfl rfl rfl) ?_
  refine XS.go (s_puti rfl xf8_38 (LY.lt (by simp only [LY_si, LY_sj]; exact L0) (by decide)) (LY.k1255 (by simp only [LY_si, LY_sj]; exact L0)) (by decide) rfl (Or.inl rfl)) ?_
  refine XS.go (s_aloadn rfl rfl rfl) ?_
  refine XS.go (s_iloadn rfl rfl rfl) ?_
  refine XS.go (s_puti rfl xf8_44 (LY.lt (by simp only [LY_si, LY_sj]; exact L0) (by decide)) (LY.k1255 (by simp only [LY_si, LY_sj]; exact L0)) (by decide) rfl (Or.inl rfl)) ?_
  refine XS.go (s_aloadn rfl rfl rfl) ?_
  refine XS.go (s_iload rfl rfl) ?_
  refine XS.go (s_puti rfl xf8_41 (LY.lt (by simp only [LY_si, LY_sj]; exact L0) (by decide)) (LY.k1255 (by simp only [LY_si, LY_sj]; exact L0)) (by decide) rfl (Or.inl rfl)) ?_
  refine XS.go (s_aloadn rfl rfl rfl) ?_
  refine XS.go (s_lconst (v := 0) rfl rfl) ?_
  refine XS.go (s_putj rfl xf8_47 (LY.lt (by simp only [LY_si, LY_sj]; exact L0) (by decide)) (LY.k1255 (by simp only [LY_si, LY_sj]; exact L0)) (by decide) rfl (Or.inl rfl)) ?_
  refine XS.go (s_aloadn rfl rfl rfl) ?_
  refine XS.go (s_iconst (v := 0) rfl rfl) ?_
  refine XS.go (s_puti rfl xf8_51 (LY.lt (by simp only [LY_si, LY_sj]; exact L0) (by decide)) (LY.k1255 (by simp only [LY_si, LY_sj]; exact L0)) (by decide) rfl (Or.inl rfl)) ?_
  cases hf
  exact XR.retv rfl rfl (fun hret => ⟨_, hret, ⟨rfl, rfl⟩, (by simp only [LY_si, LY_sj]; exact L0)⟩)
def b_r_locateMember_76 (y1 : Int32) (h : XH) : Option (Unit × XH) := (some ((), (hsi h 1255 7 y1)))
set_option maxRecDepth 20000 in
theorem kb_r_locateMember_76 {l : Launch} {G : XG} {d : Nat} {y1 : Int32} {h : XH} {r : Unit × XH} (L0 : LY h) (hf : b_r_locateMember_76 y1 h = some r) : XR l G xEX8_locateMember (d + 3) (76, [none, none, none, none, none], [(.int y1), (.ref 1255)], h) (fun C => ∃ v, xRet xEX8_locateMember C v ∧ (C.2.2.2 = r.2 ∧ v = none) ∧ LY r.2) := by
  unfold b_r_locateMember_76 at hf
  refine XS.go (s_puti rfl xf8_38 (LY.lt L0 (by decide)) (LY.k1255 L0) (by decide) rfl (Or.inl rfl)) ?_
  cases hf
  exact XR.retv rfl rfl (fun hret => ⟨_, hret, ⟨rfl, rfl⟩, (by simp only [LY_si, LY_sj]; exact L0)⟩)
def b_r_locateMember_58 (x4 : Option Nat) (y1 : Int32) (h : XH) : Option (Unit × XH) := (Option.elim (x4) (b_r_locateMember_76 (-1) (hsi h 1255 8 y1)) fun b2 => (if b2 < hz h ∧ hk h b2 = 3 then (b_r_locateMember_76 (hi h b2 4) (hsi h 1255 8 y1)) else none))
set_option maxRecDepth 20000 in
theorem kb_r_locateMember_58 {l : Launch} {G : XG} {d : Nat} {x4 : Option Nat} {y1 : Int32} {h : XH} {r : Unit × XH} (L0 : LY h) (hf : b_r_locateMember_58 x4 y1 h = some r) : XR l G xEX8_locateMember (d + 3) (58, [some (.ref 1255), none, none, none, some (va_rf x4)], [(.int y1), (.ref 1255)], h) (fun C => ∃ v, xRet xEX8_locateMember C v ∧ (C.2.2.2 = r.2 ∧ v = none) ∧ LY r.2) := by
  unfold b_r_locateMember_58 at hf
  refine XS.go (s_puti rfl xf8_41 (LY.lt L0 (by decide)) (LY.k1255 L0) (by decide) rfl (Or.inl rfl)) ?_
  refine XS.go (s_aloadn rfl rfl rfl) ?_
  refine XS.go (s_aloadO rfl rfl) ?_
  refine r_ifnonnull (tgt := 71) rfl rfl (fun qn1 => ?_) (fun b2 qn1 => ?_)
  · replace hf := xo_none hf qn1
    try rw [qn1]
    refine XS.go (s_iconst (v := (-1)) rfl rfl) ?_
    refine XS.go (s_goto (tgt := 76) rfl rfl) ?_
    exact XR.forget (L2 := [none, none, none, none, none]) trivial (kb_r_locateMember_76 (by simp only [LY_si, LY_sj]; exact L0) hf)
  · replace hf := xo_some hf qn1
    try rw [qn1]
    refine XS.go (s_aload rfl rfl) ?_
    replace hf := xi_none hf
    obtain ⟨qk3, hf⟩ := hf
    refine XS.go (s_getie rfl xf8_140 (show b2 < hz _ by simp only [hz_hsi, hk_hsi, hz_hsj, hk_hsj]; exact qk3.1) (by simp only [hz_hsi, hk_hsi, hz_hsj, hk_hsj]; exact qk3.2) (by decide) rfl (hi_hsi_nk (by decide))) ?_
    exact XR.forget (L2 := [none, none, none, none, none]) trivial (kb_r_locateMember_76 (by simp only [LY_si, LY_sj]; exact L0) hf)
def b_r_locateMember_24 (x1 : Nat) (x2 : Int32) (x3 : Int32) (y1 : Int32) (h : XH) : Option (Unit × XH) := (Option.bind (f_t_fieldOf (some x1) (y1 - 1) (hsi h 1255 11 y1)) fun r4 => (Option.elim (r4.1) (b_r_locateMember_58 none (-1) r4.2) fun b8 => (Option.bind (f_b_storedAt 1256 x2 x3 r4.2) fun r9 => (b_r_locateMember_58 (some b8) r9.1 r9.2))))
set_option maxRecDepth 20000 in
theorem kb_r_locateMember_24 {l : Launch} {G : XG} {d : Nat} {x1 : Nat} {x2 : Int32} {x3 : Int32} {y1 : Int32} {h : XH} {r : Unit × XH} (L0 : LY h) (hf : b_r_locateMember_24 x1 x2 x3 y1 h = some r) : XR l G xEX8_locateMember (d + 3) (24, [some (.ref 1255), some (.ref x1), some (.int x2), some (.int x3), none], [(.int y1), (.ref 1255)], h) (fun C => ∃ v, xRet xEX8_locateMember C v ∧ (C.2.2.2 = r.2 ∧ v = none) ∧ LY r.2) := by
  unfold b_r_locateMember_24 at hf
  refine XS.go (s_puti rfl xf8_51 (LY.lt L0 (by decide)) (LY.k1255 L0) (by decide) rfl (Or.inl rfl)) ?_
  refine XS.go (s_aloadn rfl rfl rfl) ?_
  refine XS.go (s_aloadn rfl rfl rfl) ?_
  refine XS.go (s_getie rfl xf8_51 (LY.lt (by simp only [LY_si, LY_sj]; exact L0) (by decide)) (LY.k1255 (by simp only [LY_si, LY_sj]; exact L0)) (by decide) rfl hi_hsi_eq) ?_
  refine XS.go (s_iconst (v := 1) rfl rfl) ?_
  refine XS.go (s_isub rfl) ?_
  replace hf := xb_some hf
  obtain ⟨r4, e5, hf⟩ := hf
  refine r_callsn rfl xsX11_fieldOf (List.mem_of_getElem? (i := 10) rfl) (kf_t_fieldOf (d := d) (by simp only [LY_si, LY_sj]; exact L0) e5) rfl rfl (dl (by decide)) (by decide) (Nat.le_of_ble_eq_true rfl) ?_
  rintro _ _ ⟨⟨rfl, rfl⟩, L6⟩
  refine XS.go (XS.lcl (L3 := [some (.ref 1255), some (.ref x1), some (.int x2), some (.int x3), some (va_rf r4.1)]) (s_astoreO rfl (Nat.le_of_ble_eq_true rfl)) rfl) ?_
  refine XS.go (s_aloadn rfl rfl rfl) ?_
  refine XS.go (s_aloadO rfl rfl) ?_
  refine r_ifnonnull (tgt := 49) rfl rfl (fun qn7 => ?_) (fun b8 qn7 => ?_)
  · replace hf := xo_none hf qn7
    try rw [qn7]
    refine XS.go (s_iconst (v := (-1)) rfl rfl) ?_
    refine XS.go (s_goto (tgt := 58) rfl rfl) ?_
    exact XR.forget (L2 := [some (.ref 1255), none, none, none, some (va_rf none)]) ⟨rfl, ⟨rfl, trivial⟩⟩ (kb_r_locateMember_58 L6 hf)
  · replace hf := xo_some hf qn7
    try rw [qn7]
    refine XS.go (s_aloadn rfl rfl rfl) ?_
    refine XS.go (s_getr rfl xf8_12 (LY.lt L6 (by decide)) (LY.k1255 L6) (by decide) rfl (LY.r1255_0 L6)) ?_
    refine XS.go (s_iloadn rfl rfl rfl) ?_
    refine XS.go (s_iloadn rfl rfl rfl) ?_
    replace hf := xb_some hf
    obtain ⟨r9, e10, hf⟩ := hf
    refine r_callv rfl xvX1_storedAt xm8_134 (kf_b_storedAt (d := d) L6 e10) (LY.lt L6 (by decide)) (LY.k1256 L6) (by decide) rfl rfl (dl (by decide)) (by decide) (Nat.le_of_ble_eq_true rfl) ?_
    rintro _ _ ⟨⟨rfl, rfl⟩, L11⟩
    exact XR.forget (L2 := [some (.ref 1255), none, none, none, some (.ref b8)]) ⟨rfl, ⟨rfl, trivial⟩⟩ (kb_r_locateMember_58 L11 hf)
def f_r_locateMember (a0 : Nat) (a1 : Int32) (a2 : Int32) (h : XH) : Option (Unit × XH) := (if ¬ (hi h 1255 8) = (-1) then (Option.bind (f_b_octet 1256 (hi h 1255 8) h) fun r13 => (b_r_locateMember_24 a0 a1 a2 r13.1 r13.2)) else (b_r_locateMember_24 a0 a1 a2 0 h))
set_option maxRecDepth 20000 in
theorem kf_r_locateMember {l : Launch} {G : XG} {d : Nat} {a0 : Nat} {a1 : Int32} {a2 : Int32} {h : XH} {r : Unit × XH} (L0 : LY h) (hf : f_r_locateMember a0 a1 a2 h = some r) : XC l G xEX8_locateMember (d + 3) [.ref 1255, .ref a0, .int a1, .int a2] h (fun v h2 => (h2 = r.2 ∧ v = none) ∧ LY r.2) := by
  refine XC.virt xvX8_locateMember (Nat.le_of_ble_eq_true rfl) ?_
  unfold f_r_locateMember at hf
  refine XR.norm (L3 := [some (.ref 1255), some (.ref a0), some (.int a1), some (.int a2), none]) rfl ?_
  refine XS.go (s_aloadn rfl rfl rfl) ?_
  refine XS.go (s_aloadn rfl rfl rfl) ?_
  refine XS.go (s_getie rfl xf8_41 (LY.lt L0 (by decide)) (LY.k1255 L0) (by decide) rfl rfl) ?_
  refine XS.go (s_iconst (v := (-1)) rfl rfl) ?_
  refine r_icmp_ne (tgt := 13) rfl rfl (fun qc12 => ?_) (fun qc12 => ?_)
  · replace hf := xi_pos hf qc12
    refine XS.go (s_aloadn rfl rfl rfl) ?_
    refine XS.go (s_getr rfl xf8_12 (LY.lt L0 (by decide)) (LY.k1255 L0) (by decide) rfl (LY.r1255_0 L0)) ?_
    refine XS.go (s_aloadn rfl rfl rfl) ?_
    refine XS.go (s_getie rfl xf8_41 (LY.lt L0 (by decide)) (LY.k1255 L0) (by decide) rfl rfl) ?_
    replace hf := xb_some hf
    obtain ⟨r13, e14, hf⟩ := hf
    refine r_callv rfl xvX1_octet xm8_155 (kf_b_octet (d := d) L0 e14) (LY.lt L0 (by decide)) (LY.k1256 L0) (by decide) rfl rfl (dl0 (by decide)) (by decide) (Nat.le_of_ble_eq_true rfl) ?_
    rintro _ _ ⟨⟨rfl, rfl⟩, L15⟩
    exact XR.forget (L2 := [some (.ref 1255), some (.ref a0), some (.int a1), some (.int a2), none]) ⟨rfl, ⟨rfl, ⟨rfl, ⟨rfl, trivial⟩⟩⟩⟩ (kb_r_locateMember_24 L15 hf)
  · replace hf := xi_neg hf qc12
    refine XS.go (s_iconst (v := 0) rfl rfl) ?_
    refine XS.go (s_goto (tgt := 24) rfl rfl) ?_
    exact XR.forget (L2 := [some (.ref 1255), some (.ref a0), some (.int a1), some (.int a2), none]) ⟨rfl, ⟨rfl, ⟨rfl, ⟨rfl, trivial⟩⟩⟩⟩ (kb_r_locateMember_24 L0 hf)
def b_r_locateField_69 (x1 : Nat) (x2 : Nat) (x3 : Int32) (y0 : Int32) (h : XH) : Option (Int32 × XH) := (if x2 < hz h ∧ hk h x2 = 3 then (Option.bind (f_r_found (hi h x2 3) (hi h x2 4) (hi h x2 5) y0 h) fun r2 => (if x2 < hz r2.2 ∧ hk r2.2 x2 = 3 then (if ¬ (hi r2.2 x2 3) = 4 then (some (1, (hsj r2.2 1255 10 (hj r2.2 x2 8)))) else (if x1 < hz r2.2 ∧ hk r2.2 x1 = 9 then (Option.bind (hr r2.2 x1 2) fun b8 => (if b8 < hz r2.2 ∧ hk r2.2 b8 = 4 then (Option.bind (f_g_at b8 (hi r2.2 x2 4) (hsj r2.2 1255 10 (hj r2.2 x2 8))) fun r11 => (if x2 < hz r11.2 ∧ hk r11.2 x2 = 3 then (Option.bind (r11.1) fun b15 => (Option.bind (f_r_locateMember b15 x3 ((hi r11.2 x2 6) + 1) r11.2) fun r17 => (some (1, r17.2)))) else none)) else none)) else none)) else none)) else none)
set_option maxRecDepth 20000 in
theorem kb_r_locateField_69 {l : Launch} {G : XG} {d : Nat} {x1 : Nat} {x2 : Nat} {x3 : Int32} {y0 : Int32} {h : XH} {r : Int32 × XH} (L0 : LY h) (hf : b_r_locateField_69 x1 x2 x3 y0 h = some r) : XR l G xEX8_locateField (d + 4) (69, [some (.ref 1255), some (.ref x1), some (.ref x2), some (.int x3), none, none], [(.int y0)], h) (fun C => ∃ v, xRet xEX8_locateField C v ∧ (C.2.2.2 = r.2 ∧ v = some (.int r.1)) ∧ LY r.2) := by
  unfold b_r_locateField_69 at hf
  refine XS.go (XS.lcl (L3 := [some (.ref 1255), some (.ref x1), some (.ref x2), some (.int x3), none, some (.int y0)]) (s_istore rfl (Nat.le_of_ble_eq_true rfl)) rfl) ?_
  refine XS.go (s_aloadn rfl rfl rfl) ?_
  refine XS.go (s_aloadn rfl rfl rfl) ?_
  replace hf := xi_none hf
  obtain ⟨qk1, hf⟩ := hf
  refine XS.go (s_getie rfl xf8_137 qk1.1 qk1.2 (by decide) rfl rfl) ?_
  refine XS.go (s_aloadn rfl rfl rfl) ?_
  refine XS.go (s_getie rfl xf8_140 qk1.1 qk1.2 (by decide) rfl rfl) ?_
  refine XS.go (s_aloadn rfl rfl rfl) ?_
  refine XS.go (s_getie rfl xf8_142 qk1.1 qk1.2 (by decide) rfl rfl) ?_
  refine XS.go (s_iload rfl rfl) ?_
  replace hf := xb_some hf
  obtain ⟨r2, e3, hf⟩ := hf
  refine r_callv rfl xvX8_found xm8_113 (kf_r_found (d := d) L0 e3) (LY.lt L0 (by decide)) (LY.k1255 L0) (by decide) rfl rfl (dl0 (by decide)) (by decide) (Nat.le_of_ble_eq_true rfl) ?_
  rintro _ _ ⟨⟨rfl, rfl⟩, L4⟩
  refine XS.go (s_aloadn rfl rfl rfl) ?_
  refine XS.go (s_aloadn rfl rfl rfl) ?_
  replace hf := xi_none hf
  obtain ⟨qk5, hf⟩ := hf
  refine XS.go (s_getje rfl xf8_145 qk5.1 qk5.2 (by decide) rfl rfl) ?_
  refine XS.go (s_putj rfl xf8_47 (LY.lt L4 (by decide)) (LY.k1255 L4) (by decide) rfl (Or.inl rfl)) ?_
  refine XS.go (s_aloadn rfl rfl rfl) ?_
  refine XS.go (s_getie rfl xf8_137 (show x2 < hz _ by simp only [hz_hsi, hk_hsi, hz_hsj, hk_hsj]; exact qk5.1) (by simp only [hz_hsi, hk_hsi, hz_hsj, hk_hsj]; exact qk5.2) (by decide) rfl (congrFun hi_hsj _)) ?_
  refine XS.go (s_iconst (v := 4) rfl rfl) ?_
  refine r_icmp_ne (tgt := 127) rfl rfl (fun qc6 => ?_) (fun qc6 => ?_)
  · replace hf := xi_pos hf qc6
    refine XS.go (s_iconst (v := 1) rfl rfl) ?_
    cases hf
    exact XR.retz rfl rfl (by decide) (fun hret => ⟨_, hret, ⟨rfl, rfl⟩, (by simp only [LY_si, LY_sj]; exact L4)⟩)
  · replace hf := xi_neg hf qc6
    refine XS.go (s_aloadn rfl rfl rfl) ?_
    refine XS.go (s_aloadn rfl rfl rfl) ?_
    replace hf := xi_none hf
    obtain ⟨qk7, hf⟩ := hf
    replace hf := xb_some hf
    obtain ⟨b8, qr9, hf⟩ := hf
    refine XS.go (s_getr rfl xf8_148 (show x1 < hz _ by simp only [hz_hsi, hk_hsi, hz_hsj, hk_hsj]; exact qk7.1) (by simp only [hz_hsi, hk_hsi, hz_hsj, hk_hsj]; exact qk7.2) (by decide) rfl (by simp only [hr_hsi, hr_hsj]; exact qr9)) ?_
    refine XS.go (s_aloadn rfl rfl rfl) ?_
    refine XS.go (s_getie rfl xf8_140 (show x2 < hz _ by simp only [hz_hsi, hk_hsi, hz_hsj, hk_hsj]; exact qk5.1) (by simp only [hz_hsi, hk_hsi, hz_hsj, hk_hsj]; exact qk5.2) (by decide) rfl (congrFun hi_hsj _)) ?_
    replace hf := xi_none hf
    obtain ⟨qk10, hf⟩ := hf
    replace hf := xb_some hf
    obtain ⟨r11, e12, hf⟩ := hf
    refine r_callv rfl xvX4_at xm8_91 (kf_g_at (d := d) (by simp only [LY_si, LY_sj]; exact L4) e12) (show b8 < hz _ by simp only [hz_hsi, hk_hsi, hz_hsj, hk_hsj]; exact qk10.1) (by simp only [hz_hsi, hk_hsi, hz_hsj, hk_hsj]; exact qk10.2) (by decide) rfl rfl (dl0 (by decide)) (by decide) (Nat.le_of_ble_eq_true rfl) ?_
    rintro _ _ ⟨⟨rfl, rfl⟩, L13⟩
    refine XS.go (s_iloadn rfl rfl rfl) ?_
    refine XS.go (s_aloadn rfl rfl rfl) ?_
    replace hf := xi_none hf
    obtain ⟨qk14, hf⟩ := hf
    refine XS.go (s_getie rfl xf8_129 qk14.1 qk14.2 (by decide) rfl rfl) ?_
    refine XS.go (s_iconst (v := 1) rfl rfl) ?_
    refine XS.go (s_iadd rfl) ?_
    replace hf := xb_some hf
    obtain ⟨b15, qo16, hf⟩ := hf
    try rw [qo16]
    replace hf := xb_some hf
    obtain ⟨r17, e18, hf⟩ := hf
    refine r_callv rfl xvX8_locateMember xm8_151 (kf_r_locateMember (d := d) L13 e18) (LY.lt L13 (by decide)) (LY.k1255 L13) (by decide) rfl rfl (dl (by decide)) (by decide) (Nat.le_of_ble_eq_true rfl) ?_
    rintro _ _ ⟨⟨rfl, rfl⟩, L19⟩
    refine XS.go (s_iconst (v := 1) rfl rfl) ?_
    cases hf
    exact XR.retz rfl rfl (by decide) (fun hret => ⟨_, hret, ⟨rfl, rfl⟩, L19⟩)
def b_r_locateField_41 (x1 : Nat) (x2 : Nat) (x3 : Int32) (y0 : Int32) (h : XH) : Option (Int32 × XH) := (if y0 = 0 then (if x2 < hz h ∧ hk h x2 = 3 then (Option.bind (f_b_storedAt 1256 x3 (hi h x2 6) h) fun r22 => (b_r_locateField_69 x1 x2 x3 r22.1 r22.2)) else none) else (if x2 < hz h ∧ hk h x2 = 3 then (b_r_locateField_69 x1 x2 x3 (x3 + (hi h x2 6)) h) else none))
set_option maxRecDepth 20000 in
theorem kb_r_locateField_41 {l : Launch} {G : XG} {d : Nat} {x1 : Nat} {x2 : Nat} {x3 : Int32} {y0 : Int32} {h : XH} {r : Int32 × XH} (L0 : LY h) (hf : b_r_locateField_41 x1 x2 x3 y0 h = some r) : XR l G xEX8_locateField (d + 4) (41, [some (.ref 1255), some (.ref x1), some (.ref x2), some (.int x3), none, none], [(.int y0)], h) (fun C => ∃ v, xRet xEX8_locateField C v ∧ (C.2.2.2 = r.2 ∧ v = some (.int r.1)) ∧ LY r.2) := by
  unfold b_r_locateField_41 at hf
  refine XS.go (XS.lcl (L3 := [some (.ref 1255), some (.ref x1), some (.ref x2), some (.int x3), some (.int y0), none]) (s_istore rfl (Nat.le_of_ble_eq_true rfl)) rfl) ?_
  refine XS.go (s_iload rfl rfl) ?_
  refine r_if_eq (tgt := 57) rfl rfl (fun qc20 => ?_) (fun qc20 => ?_)
  · replace hf := xi_pos hf qc20
    refine XS.go (s_aloadn rfl rfl rfl) ?_
    refine XS.go (s_getr rfl xf8_12 (LY.lt L0 (by decide)) (LY.k1255 L0) (by decide) rfl (LY.r1255_0 L0)) ?_
    refine XS.go (s_iloadn rfl rfl rfl) ?_
    refine XS.go (s_aloadn rfl rfl rfl) ?_
    replace hf := xi_none hf
    obtain ⟨qk21, hf⟩ := hf
    refine XS.go (s_getie rfl xf8_129 qk21.1 qk21.2 (by decide) rfl rfl) ?_
    replace hf := xb_some hf
    obtain ⟨r22, e23, hf⟩ := hf
    refine r_callv rfl xvX1_storedAt xm8_134 (kf_b_storedAt (d := d) L0 e23) (LY.lt L0 (by decide)) (LY.k1256 L0) (by decide) rfl rfl (dl (by decide)) (by decide) (Nat.le_of_ble_eq_true rfl) ?_
    rintro _ _ ⟨⟨rfl, rfl⟩, L24⟩
    exact XR.forget (L2 := [some (.ref 1255), some (.ref x1), some (.ref x2), some (.int x3), none, none]) ⟨rfl, ⟨rfl, ⟨rfl, ⟨rfl, trivial⟩⟩⟩⟩ (kb_r_locateField_69 L24 hf)
  · replace hf := xi_neg hf qc20
    refine XS.go (s_iloadn rfl rfl rfl) ?_
    refine XS.go (s_aloadn rfl rfl rfl) ?_
    replace hf := xi_none hf
    obtain ⟨qk25, hf⟩ := hf
    refine XS.go (s_getie rfl xf8_129 qk25.1 qk25.2 (by decide) rfl rfl) ?_
    refine XS.go (s_iadd rfl) ?_
    refine XS.go (s_goto (tgt := 69) rfl rfl) ?_
    exact XR.forget (L2 := [some (.ref 1255), some (.ref x1), some (.ref x2), some (.int x3), none, none]) ⟨rfl, ⟨rfl, ⟨rfl, ⟨rfl, trivial⟩⟩⟩⟩ (kb_r_locateField_69 L0 hf)
def f_r_locateField (a0 : Nat) (a1 : Nat) (h : XH) : Option (Int32 × XH) := (Option.bind (f_r_isAtHand h) fun r26 => (if ¬ r26.1 = 0 then (if 0 ≤ (hi r26.2 1255 5) ∧ (hi r26.2 1255 5) < nI 64 then (if ¬ (hi r26.2 1258 (Int32.toNatClampNeg (hi r26.2 1255 5))) = 2 then (b_r_locateField_41 a0 a1 (hi r26.2 1261 (Int32.toNatClampNeg (hi r26.2 1255 5))) 0 r26.2) else (b_r_locateField_41 a0 a1 (hi r26.2 1261 (Int32.toNatClampNeg (hi r26.2 1255 5))) 1 r26.2)) else none) else (some (0, r26.2))))
set_option maxRecDepth 20000 in
theorem kf_r_locateField {l : Launch} {G : XG} {d : Nat} {a0 : Nat} {a1 : Nat} {h : XH} {r : Int32 × XH} (L0 : LY h) (hf : f_r_locateField a0 a1 h = some r) : XC l G xEX8_locateField (d + 4) [.ref 1255, .ref a0, .ref a1] h (fun v h2 => (h2 = r.2 ∧ v = some (.int r.1)) ∧ LY r.2) := by
  refine XC.virt xvX8_locateField (Nat.le_of_ble_eq_true rfl) ?_
  unfold f_r_locateField at hf
  refine XR.norm (L3 := [some (.ref 1255), some (.ref a0), some (.ref a1), none, none, none]) rfl ?_
  refine XS.go (s_aloadn rfl rfl rfl) ?_
  refine XS.go (s_ifnull_r rfl) ?_
  refine XS.go (s_aloadn rfl rfl rfl) ?_
  replace hf := xb_some hf
  obtain ⟨r26, e27, hf⟩ := hf
  refine r_callv rfl xvX8_isAtHand xm8_77 (kf_r_isAtHand (d := d) L0 e27) (LY.lt L0 (by decide)) (LY.k1255 L0) (by decide) rfl rfl (dl0 (by decide)) (by decide) (Nat.le_of_ble_eq_true rfl) ?_
  rintro _ _ ⟨⟨rfl, rfl⟩, L28⟩
  refine r_if_ne (tgt := 13) rfl rfl (fun qc29 => ?_) (fun qc29 => ?_)
  · replace hf := xi_pos hf qc29
    refine XS.go (s_aloadn rfl rfl rfl) ?_
    refine XS.go (s_getr rfl xf8_28 (LY.lt L28 (by decide)) (LY.k1255 L28) (by decide) rfl (LY.r1255_4 L28)) ?_
    refine XS.go (s_aloadn rfl rfl rfl) ?_
    refine XS.go (s_getie rfl xf8_31 (LY.lt L28 (by decide)) (LY.k1255 L28) (by decide) rfl rfl) ?_
    replace hf := xi_none hf
    obtain ⟨qk30, hf⟩ := hf
    refine XS.go (s_ialde rfl (LY.lt L28 (by decide)) (LY.k1261 L28) (inLit (LY.n1261 L28) qk30.1 qk30.2 (by decide)) rfl) ?_
    refine XS.go (XS.lcl (L3 := [some (.ref 1255), some (.ref a0), some (.ref a1), some (.int (hi r26.2 1261 (Int32.toNatClampNeg (hi r26.2 1255 5)))), none, none]) (s_istoren rfl rfl (Nat.le_of_ble_eq_true rfl)) rfl) ?_
    refine XS.go (s_aloadn rfl rfl rfl) ?_
    refine XS.go (s_getr rfl xf8_18 (LY.lt L28 (by decide)) (LY.k1255 L28) (by decide) rfl (LY.r1255_1 L28)) ?_
    refine XS.go (s_aloadn rfl rfl rfl) ?_
    refine XS.go (s_getie rfl xf8_31 (LY.lt L28 (by decide)) (LY.k1255 L28) (by decide) rfl rfl) ?_
    refine XS.go (s_ialde rfl (LY.lt L28 (by decide)) (LY.k1258 L28) (inLit (LY.n1258 L28) qk30.1 qk30.2 (by decide)) rfl) ?_
    refine XS.go (s_iconst (v := 2) rfl rfl) ?_
    refine r_icmp_ne (tgt := 40) rfl rfl (fun qc31 => ?_) (fun qc31 => ?_)
    · replace hf := xi_pos hf qc31
      refine XS.go (s_iconst (v := 0) rfl rfl) ?_
      exact XR.forget (L2 := [some (.ref 1255), some (.ref a0), some (.ref a1), some (.int (hi r26.2 1261 (Int32.toNatClampNeg (hi r26.2 1255 5)))), none, none]) ⟨rfl, ⟨rfl, ⟨rfl, ⟨rfl, trivial⟩⟩⟩⟩ (kb_r_locateField_41 L28 hf)
    · replace hf := xi_neg hf qc31
      refine XS.go (s_iconst (v := 1) rfl rfl) ?_
      refine XS.go (s_goto (tgt := 41) rfl rfl) ?_
      exact XR.forget (L2 := [some (.ref 1255), some (.ref a0), some (.ref a1), some (.int (hi r26.2 1261 (Int32.toNatClampNeg (hi r26.2 1255 5)))), none, none]) ⟨rfl, ⟨rfl, ⟨rfl, ⟨rfl, trivial⟩⟩⟩⟩ (kb_r_locateField_41 L28 hf)
  · replace hf := xi_neg hf qc29
    refine XS.go (s_iconst (v := 0) rfl rfl) ?_
    cases hf
    exact XR.retz rfl rfl (by decide) (fun hret => ⟨_, hret, ⟨rfl, rfl⟩, L28⟩)
def f_r_locate (a0 : Nat) (a1 : Int32) (h : XH) : Option (Int32 × XH) := (Option.bind (f_r_isAtHand h) fun r1 => (if r1.1 = 0 then (some (0, r1.2)) else (if a1 < 0 then (some (0, r1.2)) else (Option.bind (f_r_partCount a0 r1.2) fun r6 => (if a1 < r6.1 then (if 0 ≤ (hi r6.2 1255 5) ∧ (hi r6.2 1255 5) < nI 64 then (if ¬ (hi r6.2 1258 (Int32.toNatClampNeg (hi r6.2 1255 5))) = 1 then (if ¬ (hi r6.2 1258 (Int32.toNatClampNeg (hi r6.2 1255 5))) = 5 then (Option.bind (f_r_definitionAtHand a0 r6.2) fun r13 => (Option.bind (f_t_fieldOf r13.1 a1 r13.2) fun r16 => (Option.bind (r16.1) fun b19 => (Option.bind (f_r_locateField a0 b19 r16.2) fun r21 => (if r21.1 = 0 ∨ r21.1 = 1 then (some (r21.1, r21.2)) else none))))) else (if a0 < hz r6.2 ∧ hk r6.2 a0 = 9 then (Option.bind (f_s_bytesOf a0 (hi r6.2 1260 (Int32.toNatClampNeg (hi r6.2 1255 5))) (hi r6.2 1259 (Int32.toNatClampNeg (hi r6.2 1255 5))) r6.2) fun r26 => (if 0 ≤ (hi r26.2 1255 5) ∧ (hi r26.2 1255 5) < nI 64 then (Option.bind (f_r_found (hi r26.2 1260 (Int32.toNatClampNeg (hi r26.2 1255 5))) (hi r26.2 1259 (Int32.toNatClampNeg (hi r26.2 1255 5))) (-1) (((hi r6.2 1261 (Int32.toNatClampNeg (hi r6.2 1255 5))) + 4) + (a1 * r26.1)) r26.2) fun r30 => (some (1, r30.2))) else none)) else none)) else (Option.bind (f_r_found 6 0 (-1) (((hi r6.2 1261 (Int32.toNatClampNeg (hi r6.2 1255 5))) + 4) + a1) r6.2) fun r33 => (some (1, r33.2)))) else none) else (some (0, r6.2)))))))
set_option maxRecDepth 20000 in
theorem kf_r_locate {l : Launch} {G : XG} {d : Nat} {a0 : Nat} {a1 : Int32} {h : XH} {r : Int32 × XH} (L0 : LY h) (hf : f_r_locate a0 a1 h = some r) : XC l G xEX8_locate (d + 5) [.ref 1255, .ref a0, .int a1] h (fun v h2 => (h2 = r.2 ∧ v = some (.int r.1)) ∧ LY r.2) := by
  refine XC.virt xvX8_locate (Nat.le_of_ble_eq_true rfl) ?_
  unfold f_r_locate at hf
  refine XR.norm (L3 := [some (.ref 1255), some (.ref a0), some (.int a1), none, none]) rfl ?_
  refine XS.go (s_aloadn rfl rfl rfl) ?_
  replace hf := xb_some hf
  obtain ⟨r1, e2, hf⟩ := hf
  refine r_callv rfl xvX8_isAtHand xm8_77 (kf_r_isAtHand (d := d) L0 e2) (LY.lt L0 (by decide)) (LY.k1255 L0) (by decide) rfl rfl (dl0 (by decide)) (by decide) (Nat.le_of_ble_eq_true rfl) ?_
  rintro _ _ ⟨⟨rfl, rfl⟩, L3⟩
  refine r_if_eq (tgt := 20) rfl rfl (fun qc4 => ?_) (fun qc4 => ?_)
  · replace hf := xi_pos hf qc4
    refine XS.go (s_iconst (v := 0) rfl rfl) ?_
    cases hf
    exact XR.retz rfl rfl (by decide) (fun hret => ⟨_, hret, ⟨rfl, rfl⟩, L3⟩)
  · replace hf := xi_neg hf qc4
    refine XS.go (s_iloadn rfl rfl rfl) ?_
    refine r_if_lt (tgt := 20) rfl rfl (fun qc5 => ?_) (fun qc5 => ?_)
    · replace hf := xi_pos hf qc5
      refine XS.go (s_iconst (v := 0) rfl rfl) ?_
      cases hf
      exact XR.retz rfl rfl (by decide) (fun hret => ⟨_, hret, ⟨rfl, rfl⟩, L3⟩)
    · replace hf := xi_neg hf qc5
      refine XS.go (s_iloadn rfl rfl rfl) ?_
      refine XS.go (s_aloadn rfl rfl rfl) ?_
      refine XS.go (s_aloadn rfl rfl rfl) ?_
      replace hf := xb_some hf
      obtain ⟨r6, e7, hf⟩ := hf
      refine r_callv rfl xvX8_partCount xm8_81 (kf_r_partCount (d := d) L3 e7) (LY.lt L3 (by decide)) (LY.k1255 L3) (by decide) rfl rfl (dl (by decide)) (by decide) (Nat.le_of_ble_eq_true rfl) ?_
      rintro _ _ ⟨⟨rfl, rfl⟩, L8⟩
      refine r_icmp_lt (tgt := 22) rfl rfl (fun qc9 => ?_) (fun qc9 => ?_)
      · replace hf := xi_pos hf qc9
        refine XS.go (s_aloadn rfl rfl rfl) ?_
        refine XS.go (s_getr rfl xf8_28 (LY.lt L8 (by decide)) (LY.k1255 L8) (by decide) rfl (LY.r1255_4 L8)) ?_
        refine XS.go (s_aloadn rfl rfl rfl) ?_
        refine XS.go (s_getie rfl xf8_31 (LY.lt L8 (by decide)) (LY.k1255 L8) (by decide) rfl rfl) ?_
        replace hf := xi_none hf
        obtain ⟨qk10, hf⟩ := hf
        refine XS.go (s_ialde rfl (LY.lt L8 (by decide)) (LY.k1261 L8) (inLit (LY.n1261 L8) qk10.1 qk10.2 (by decide)) rfl) ?_
        refine XS.go (s_iconst (v := 4) rfl rfl) ?_
        refine XS.go (s_iadd rfl) ?_
        refine XS.go (XS.lcl (L3 := [some (.ref 1255), some (.ref a0), some (.int a1), some (.int ((hi r6.2 1261 (Int32.toNatClampNeg (hi r6.2 1255 5))) + 4)), none]) (s_istoren rfl rfl (Nat.le_of_ble_eq_true rfl)) rfl) ?_
        refine XS.go (s_aloadn rfl rfl rfl) ?_
        refine XS.go (s_getr rfl xf8_18 (LY.lt L8 (by decide)) (LY.k1255 L8) (by decide) rfl (LY.r1255_1 L8)) ?_
        refine XS.go (s_aloadn rfl rfl rfl) ?_
        refine XS.go (s_getie rfl xf8_31 (LY.lt L8 (by decide)) (LY.k1255 L8) (by decide) rfl rfl) ?_
        refine XS.go (s_ialde rfl (LY.lt L8 (by decide)) (LY.k1258 L8) (inLit (LY.n1258 L8) qk10.1 qk10.2 (by decide)) rfl) ?_
        refine XS.go (s_iconst (v := 1) rfl rfl) ?_
        refine r_icmp_ne (tgt := 60) rfl rfl (fun qc11 => ?_) (fun qc11 => ?_)
        · replace hf := xi_pos hf qc11
          refine XS.go (s_aloadn rfl rfl rfl) ?_
          refine XS.go (s_getr rfl xf8_18 (LY.lt L8 (by decide)) (LY.k1255 L8) (by decide) rfl (LY.r1255_1 L8)) ?_
          refine XS.go (s_aloadn rfl rfl rfl) ?_
          refine XS.go (s_getie rfl xf8_31 (LY.lt L8 (by decide)) (LY.k1255 L8) (by decide) rfl rfl) ?_
          refine XS.go (s_ialde rfl (LY.lt L8 (by decide)) (LY.k1258 L8) (inLit (LY.n1258 L8) qk10.1 qk10.2 (by decide)) rfl) ?_
          refine XS.go (s_iconst (v := 5) rfl rfl) ?_
          refine r_icmp_ne (tgt := 128) rfl rfl (fun qc12 => ?_) (fun qc12 => ?_)
          · replace hf := xi_pos hf qc12
            refine XS.go (s_aloadn rfl rfl rfl) ?_
            refine XS.go (s_aloadn rfl rfl rfl) ?_
            refine XS.go (s_aloadn rfl rfl rfl) ?_
            refine XS.go (s_aloadn rfl rfl rfl) ?_
            replace hf := xb_some hf
            obtain ⟨r13, e14, hf⟩ := hf
            refine r_callv rfl xvX8_definitionAtHand xm8_104 (kf_r_definitionAtHand (d := d) L8 e14) (LY.lt L8 (by decide)) (LY.k1255 L8) (by decide) rfl rfl (dl (by decide)) (by decide) (Nat.le_of_ble_eq_true rfl) ?_
            rintro _ _ ⟨⟨rfl, rfl⟩, L15⟩
            refine XS.go (s_iloadn rfl rfl rfl) ?_
            replace hf := xb_some hf
            obtain ⟨r16, e17, hf⟩ := hf
            refine r_callsn rfl xsX11_fieldOf (List.mem_of_getElem? (i := 10) rfl) (kf_t_fieldOf (d := d) L15 e17) rfl rfl (dl (by decide)) (by decide) (Nat.le_of_ble_eq_true rfl) ?_
            rintro _ _ ⟨⟨rfl, rfl⟩, L18⟩
            replace hf := xb_some hf
            obtain ⟨b19, qo20, hf⟩ := hf
            try rw [qo20]
            replace hf := xb_some hf
            obtain ⟨r21, e22, hf⟩ := hf
            refine r_callv rfl xvX8_locateField xm8_125 (kf_r_locateField (d := d) L18 e22) (LY.lt L18 (by decide)) (LY.k1255 L18) (by decide) rfl rfl (dl (by decide)) (by decide) (Nat.le_of_ble_eq_true rfl) ?_
            rintro _ _ ⟨⟨rfl, rfl⟩, L23⟩
            replace hf := xi_none hf
            obtain ⟨qk24, hf⟩ := hf
            cases hf
            exact XR.retz rfl rfl qk24 (fun hret => ⟨_, hret, ⟨rfl, rfl⟩, L23⟩)
          · replace hf := xi_neg hf qc12
            refine XS.go (s_aloadn rfl rfl rfl) ?_
            refine XS.go (s_aloadn rfl rfl rfl) ?_
            refine XS.go (s_getr rfl xf8_25 (LY.lt L8 (by decide)) (LY.k1255 L8) (by decide) rfl (LY.r1255_3 L8)) ?_
            refine XS.go (s_aloadn rfl rfl rfl) ?_
            refine XS.go (s_getie rfl xf8_31 (LY.lt L8 (by decide)) (LY.k1255 L8) (by decide) rfl rfl) ?_
            refine XS.go (s_ialde rfl (LY.lt L8 (by decide)) (LY.k1260 L8) (inLit (LY.n1260 L8) qk10.1 qk10.2 (by decide)) rfl) ?_
            refine XS.go (s_aloadn rfl rfl rfl) ?_
            refine XS.go (s_getr rfl xf8_22 (LY.lt L8 (by decide)) (LY.k1255 L8) (by decide) rfl (LY.r1255_2 L8)) ?_
            refine XS.go (s_aloadn rfl rfl rfl) ?_
            refine XS.go (s_getie rfl xf8_31 (LY.lt L8 (by decide)) (LY.k1255 L8) (by decide) rfl rfl) ?_
            refine XS.go (s_ialde rfl (LY.lt L8 (by decide)) (LY.k1259 L8) (inLit (LY.n1259 L8) qk10.1 qk10.2 (by decide)) rfl) ?_
            replace hf := xi_none hf
            obtain ⟨qk25, hf⟩ := hf
            replace hf := xb_some hf
            obtain ⟨r26, e27, hf⟩ := hf
            refine r_callv rfl xvX9_bytesOf xm8_117 (kf_s_bytesOf (d := d) L8 e27) qk25.1 qk25.2 (by decide) rfl rfl (dl (by decide)) (by decide) (Nat.le_of_ble_eq_true rfl) ?_
            rintro _ _ ⟨⟨rfl, rfl⟩, L28⟩
            refine XS.go (XS.lcl (L3 := [some (.ref 1255), some (.ref a0), some (.int a1), some (.int ((hi r6.2 1261 (Int32.toNatClampNeg (hi r6.2 1255 5))) + 4)), some (.int r26.1)]) (s_istore rfl (Nat.le_of_ble_eq_true rfl)) rfl) ?_
            refine XS.go (s_aloadn rfl rfl rfl) ?_
            refine XS.go (s_aloadn rfl rfl rfl) ?_
            refine XS.go (s_getr rfl xf8_25 (LY.lt L28 (by decide)) (LY.k1255 L28) (by decide) rfl (LY.r1255_3 L28)) ?_
            refine XS.go (s_aloadn rfl rfl rfl) ?_
            refine XS.go (s_getie rfl xf8_31 (LY.lt L28 (by decide)) (LY.k1255 L28) (by decide) rfl rfl) ?_
            replace hf := xi_none hf
            obtain ⟨qk29, hf⟩ := hf
            refine XS.go (s_ialde rfl (LY.lt L28 (by decide)) (LY.k1260 L28) (inLit (LY.n1260 L28) qk29.1 qk29.2 (by decide)) rfl) ?_
            refine XS.go (s_aloadn rfl rfl rfl) ?_
            refine XS.go (s_getr rfl xf8_22 (LY.lt L28 (by decide)) (LY.k1255 L28) (by decide) rfl (LY.r1255_2 L28)) ?_
            refine XS.go (s_aloadn rfl rfl rfl) ?_
            refine XS.go (s_getie rfl xf8_31 (LY.lt L28 (by decide)) (LY.k1255 L28) (by decide) rfl rfl) ?_
            refine XS.go (s_ialde rfl (LY.lt L28 (by decide)) (LY.k1259 L28) (inLit (LY.n1259 L28) qk29.1 qk29.2 (by decide)) rfl) ?_
            refine XS.go (s_iconst (v := (-1)) rfl rfl) ?_
            refine XS.go (s_iloadn rfl rfl rfl) ?_
            refine XS.go (s_iloadn rfl rfl rfl) ?_
            refine XS.go (s_iload rfl rfl) ?_
            refine XS.go (s_imul rfl) ?_
            refine XS.go (s_iadd rfl) ?_
            replace hf := xb_some hf
            obtain ⟨r30, e31, hf⟩ := hf
            refine r_callv rfl xvX8_found xm8_113 (kf_r_found (d := d) L28 e31) (LY.lt L28 (by decide)) (LY.k1255 L28) (by decide) rfl rfl (dl0 (by decide)) (by decide) (Nat.le_of_ble_eq_true rfl) ?_
            rintro _ _ ⟨⟨rfl, rfl⟩, L32⟩
            refine XS.go (s_iconst (v := 1) rfl rfl) ?_
            cases hf
            exact XR.retz rfl rfl (by decide) (fun hret => ⟨_, hret, ⟨rfl, rfl⟩, L32⟩)
        · replace hf := xi_neg hf qc11
          refine XS.go (s_aloadn rfl rfl rfl) ?_
          refine XS.go (s_bipush (v := 6) rfl rfl) ?_
          refine XS.go (s_iconst (v := 0) rfl rfl) ?_
          refine XS.go (s_iconst (v := (-1)) rfl rfl) ?_
          refine XS.go (s_iloadn rfl rfl rfl) ?_
          refine XS.go (s_iloadn rfl rfl rfl) ?_
          refine XS.go (s_iadd rfl) ?_
          replace hf := xb_some hf
          obtain ⟨r33, e34, hf⟩ := hf
          refine r_callv rfl xvX8_found xm8_113 (kf_r_found (d := d) L8 e34) (LY.lt L8 (by decide)) (LY.k1255 L8) (by decide) rfl rfl (dl0 (by decide)) (by decide) (Nat.le_of_ble_eq_true rfl) ?_
          rintro _ _ ⟨⟨rfl, rfl⟩, L35⟩
          refine XS.go (s_iconst (v := 1) rfl rfl) ?_
          cases hf
          exact XR.retz rfl rfl (by decide) (fun hret => ⟨_, hret, ⟨rfl, rfl⟩, L35⟩)
      · replace hf := xi_neg hf qc9
        refine XS.go (s_iconst (v := 0) rfl rfl) ?_
        cases hf
        exact XR.retz rfl rfl (by decide) (fun hret => ⟨_, hret, ⟨rfl, rfl⟩, L8⟩)
