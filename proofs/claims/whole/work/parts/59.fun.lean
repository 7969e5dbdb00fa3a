/-! Methods as functions of the heap -/
def b_m_structBody_195 (h : XH) : Option (Unit × XH) := (Option.bind (f_m_sign 125 h) fun r1 => (some ((), (hsi r1.2 1262 20 ((hi r1.2 1262 20) + 1)))))
set_option maxRecDepth 20000 in
theorem kb_m_structBody_195 {l : Launch} {G : XG} {d : Nat} {h : XH} {r : Unit × XH} (L0 : LY h) (hf : b_m_structBody_195 h = some r) : XR l G xEX12_structBody (d + 3) (195, [some (.ref 1262), none, none, none, none], [], h) (fun C => ∃ v, xRet xEX12_structBody C v ∧ (C.2.2.2 = r.2 ∧ v = none) ∧ LY r.2) := by
  unfold b_m_structBody_195 at hf
  refine XS.go (s_aloadn rfl rfl rfl) ?_
  refine XS.go (s_bipush (v := 125) rfl rfl) ?_
  replace hf := xb_some hf
  obtain ⟨r1, e2, hf⟩ := hf
  refine r_callv rfl xvX12_sign xm12_282 (kf_m_sign (d := d) L0 e2) (LY.lt L0 (by decide)) (LY.k1262 L0) (by decide) rfl rfl (dl (by decide)) (by decide) (Nat.le_of_ble_eq_true rfl) ?_
  rintro _ _ ⟨⟨rfl, rfl⟩, L3⟩
  refine XS.go (s_aloadn rfl rfl rfl) ?_
  refine XS.go (s_dup rfl rfl) ?_
  refine XS.go (s_getie rfl xf12_254 (LY.lt L3 (by decide)) (LY.k1262 L3) (by decide) rfl rfl) ?_
  refine XS.go (s_iconst (v := 1) rfl rfl) ?_
  refine XS.go (s_iadd rfl) ?_
  refine XS.go (s_puti rfl xf12_254 (LY.lt L3 (by decide)) (LY.k1262 L3) (by decide) rfl (Or.inl rfl)) ?_
  cases hf
  exact XR.retv rfl rfl (fun hret => ⟨_, hret, ⟨rfl, rfl⟩, (by simp only [LY_si, LY_sj]; exact L3)⟩)
def b_m_structBody_149 (x1 : Int32) (h : XH) : Option (Unit × XH) := (if ¬ (hi h 1262 14) = 0 then (b_m_structBody_195 h) else (if 0 ≤ x1 ∧ x1 < nI 12 then (Option.bind (f_m_upTo (hi h 1274 (Int32.toNatClampNeg x1)) (hi h 1275 (Int32.toNatClampNeg x1)) h) fun r6 => (if 0 ≤ x1 ∧ x1 < nI 12 then (if r6.1 ≤ 128 then (b_m_structBody_195 (hsi r6.2 1274 (Int32.toNatClampNeg x1) r6.1)) else (Option.bind (f_m_flaw 8 (hsi r6.2 1274 (Int32.toNatClampNeg x1) r6.1)) fun r11 => (b_m_structBody_195 r11.2))) else none)) else none))
set_option maxRecDepth 20000 in
theorem kb_m_structBody_149 {l : Launch} {G : XG} {d : Nat} {x1 : Int32} {h : XH} {r : Unit × XH} (L0 : LY h) (hf : b_m_structBody_149 x1 h = some r) : XR l G xEX12_structBody (d + 3) (149, [some (.ref 1262), some (.int x1), none, none, none], [], h) (fun C => ∃ v, xRet xEX12_structBody C v ∧ (C.2.2.2 = r.2 ∧ v = none) ∧ LY r.2) := by
  unfold b_m_structBody_149 at hf
  refine XS.go (s_aloadn rfl rfl rfl) ?_
  refine XS.go (s_getie rfl xf12_221 (LY.lt L0 (by decide)) (LY.k1262 L0) (by decide) rfl rfl) ?_
  refine r_if_ne (tgt := 195) rfl rfl (fun qc4 => ?_) (fun qc4 => ?_)
  · replace hf := xi_pos hf qc4
    exact XR.forget (L2 := [some (.ref 1262), none, none, none, none]) ⟨rfl, trivial⟩ (kb_m_structBody_195 L0 hf)
  · replace hf := xi_neg hf qc4
    refine XS.go (s_aloadn rfl rfl rfl) ?_
    refine XS.go (s_getr rfl xf12_43 (LY.lt L0 (by decide)) (LY.k1262 L0) (by decide) rfl (LY.r1262_22 L0)) ?_
    refine XS.go (s_iloadn rfl rfl rfl) ?_
    refine XS.go (s_aloadn rfl rfl rfl) ?_
    refine XS.go (s_getr rfl xf12_43 (LY.lt L0 (by decide)) (LY.k1262 L0) (by decide) rfl (LY.r1262_22 L0)) ?_
    refine XS.go (s_iloadn rfl rfl rfl) ?_
    replace hf := xi_none hf
    obtain ⟨qk5, hf⟩ := hf
    refine XS.go (s_ialde rfl (LY.lt L0 (by decide)) (LY.k1274 L0) (inLit (LY.n1274 L0) qk5.1 qk5.2 (by decide)) rfl) ?_
    refine XS.go (s_aloadn rfl rfl rfl) ?_
    refine XS.go (s_getr rfl xf12_46 (LY.lt L0 (by decide)) (LY.k1262 L0) (by decide) rfl (LY.r1262_23 L0)) ?_
    refine XS.go (s_iloadn rfl rfl rfl) ?_
    refine XS.go (s_ialde rfl (LY.lt L0 (by decide)) (LY.k1275 L0) (inLit (LY.n1275 L0) qk5.1 qk5.2 (by decide)) rfl) ?_
    replace hf := xb_some hf
    obtain ⟨r6, e7, hf⟩ := hf
    refine r_calls rfl xsX12_upTo xm12_309 (kf_m_upTo (d := d) L0 e7) rfl rfl (dl0 (by decide)) (by decide) (Nat.le_of_ble_eq_true rfl) ?_
    rintro _ _ ⟨⟨rfl, rfl⟩, L8⟩
    replace hf := xi_none hf
    obtain ⟨qk9, hf⟩ := hf
    refine XS.go (s_iast rfl (LY.lt L8 (by decide)) (LY.k1274 L8) (inLit (LY.n1274 L8) qk9.1 qk9.2 (by decide))) ?_
    refine XS.go (s_aloadn rfl rfl rfl) ?_
    refine XS.go (s_getr rfl xf12_43 (LY.lt (by simp only [LY_si, LY_sj]; exact L8) (by decide)) (LY.k1262 (by simp only [LY_si, LY_sj]; exact L8)) (by decide) rfl (LY.r1262_22 (by simp only [LY_si, LY_sj]; exact L8))) ?_
    refine XS.go (s_iloadn rfl rfl rfl) ?_
    refine XS.go (s_ialde rfl (LY.lt (by simp only [LY_si, LY_sj]; exact L8) (by decide)) (LY.k1274 (by simp only [LY_si, LY_sj]; exact L8)) (inLit (LY.n1274 (by simp only [LY_si, LY_sj]; exact L8)) qk9.1 qk9.2 (by decide)) hi_hsi_eq) ?_
    refine XS.go (s_sipush (v := 128) rfl rfl) ?_
    refine r_icmp_le (tgt := 195) rfl rfl (fun qc10 => ?_) (fun qc10 => ?_)
    · replace hf := xi_pos hf qc10
      exact XR.forget (L2 := [some (.ref 1262), none, none, none, none]) ⟨rfl, trivial⟩ (kb_m_structBody_195 (by simp only [LY_si, LY_sj]; exact L8) hf)
    · replace hf := xi_neg hf qc10
      refine XS.go (s_aloadn rfl rfl rfl) ?_
      refine XS.go (s_bipush (v := 8) rfl rfl) ?_
      replace hf := xb_some hf
      obtain ⟨r11, e12, hf⟩ := hf
      refine r_callv rfl xvX12_flaw xm12_230 (kf_m_flaw (d := d) (by simp only [LY_si, LY_sj]; exact L8) e12) (LY.lt (by simp only [LY_si, LY_sj]; exact L8) (by decide)) (LY.k1262 (by simp only [LY_si, LY_sj]; exact L8)) (by decide) rfl rfl (dl0 (by decide)) (by decide) (Nat.le_of_ble_eq_true rfl) ?_
      rintro _ _ ⟨⟨rfl, rfl⟩, L13⟩
      exact XR.forget (L2 := [some (.ref 1262), none, none, none, none]) ⟨rfl, trivial⟩ (kb_m_structBody_195 L13 hf)
def b_m_structBody_145 (K35 : Int32 → Int32 → XH → Option (Unit × XH)) (x1 : Int32) (y0 : Int32) (h : XH) : Option (Unit × XH) := (K35 x1 y0 h)
set_option maxRecDepth 20000 in
theorem kb_m_structBody_145 {l : Launch} {G : XG} {d : Nat} {K35 : Int32 → Int32 → XH → Option (Unit × XH)} {x1 : Int32} {y0 : Int32} {h : XH} {r : Unit × XH} (hK35 : ∀ (x1 : Int32) (x2 : Int32) (h : XH), LY h → K35 x1 x2 h = some r → XR l G xEX12_structBody (d + 3) (35, [some (.ref 1262), some (.int x1), some (.int x2), none, none], [], h) (fun C => ∃ v, xRet xEX12_structBody C v ∧ (C.2.2.2 = r.2 ∧ v = none) ∧ LY r.2)) (L0 : LY h) (hf : b_m_structBody_145 K35 x1 y0 h = some r) : XR l G xEX12_structBody (d + 3) (145, [some (.ref 1262), some (.int x1), none, none, none], [(.int y0)], h) (fun C => ∃ v, xRet xEX12_structBody C v ∧ (C.2.2.2 = r.2 ∧ v = none) ∧ LY r.2) := by
  unfold b_m_structBody_145 at hf
  refine XS.go (XS.lcl (L3 := [some (.ref 1262), some (.int x1), some (.int y0), none, none]) (s_istoren rfl rfl (Nat.le_of_ble_eq_true rfl)) rfl) ?_
  refine XS.go (s_goto (tgt := 35) rfl rfl) ?_
  exact XR.forget (L2 := [some (.ref 1262), some (.int x1), some (.int y0), none, none]) ⟨rfl, ⟨rfl, ⟨rfl, trivial⟩⟩⟩ (hK35 x1 y0 _ L0 hf)
def b_m_structBody_131 (K35 : Int32 → Int32 → XH → Option (Unit × XH)) (x1 : Int32) (h : XH) : Option (Unit × XH) := (Option.bind (f_m_isSign 125 h) fun r14 => (if ¬ r14.1 = 0 then (b_m_structBody_145 K35 x1 0 r14.2) else (b_m_structBody_145 K35 x1 1 r14.2)))
set_option maxRecDepth 20000 in
theorem kb_m_structBody_131 {l : Launch} {G : XG} {d : Nat} {K35 : Int32 → Int32 → XH → Option (Unit × XH)} {x1 : Int32} {h : XH} {r : Unit × XH} (hK35 : ∀ (x1 : Int32) (x2 : Int32) (h : XH), LY h → K35 x1 x2 h = some r → XR l G xEX12_structBody (d + 3) (35, [some (.ref 1262), some (.int x1), some (.int x2), none, none], [], h) (fun C => ∃ v, xRet xEX12_structBody C v ∧ (C.2.2.2 = r.2 ∧ v = none) ∧ LY r.2)) (L0 : LY h) (hf : b_m_structBody_131 K35 x1 h = some r) : XR l G xEX12_structBody (d + 3) (131, [some (.ref 1262), some (.int x1), none, none, none], [], h) (fun C => ∃ v, xRet xEX12_structBody C v ∧ (C.2.2.2 = r.2 ∧ v = none) ∧ LY r.2) := by
  unfold b_m_structBody_131 at hf
  refine XS.go (s_aloadn rfl rfl rfl) ?_
  refine XS.go (s_bipush (v := 125) rfl rfl) ?_
  replace hf := xb_some hf
  obtain ⟨r14, e15, hf⟩ := hf
  refine r_callv rfl xvX12_isSign xm12_234 (kf_m_isSign (d := d) L0 e15) (LY.lt L0 (by decide)) (LY.k1262 L0) (by decide) rfl rfl (dl0 (by decide)) (by decide) (Nat.le_of_ble_eq_true rfl) ?_
  rintro _ _ ⟨⟨rfl, rfl⟩, L16⟩
  refine r_if_ne (tgt := 144) rfl rfl (fun qc17 => ?_) (fun qc17 => ?_)
  · replace hf := xi_pos hf qc17
    refine XS.go (s_iconst (v := 0) rfl rfl) ?_
    exact XR.forget (L2 := [some (.ref 1262), some (.int x1), none, none, none]) ⟨rfl, ⟨rfl, trivial⟩⟩ (kb_m_structBody_145 hK35 L16 hf)
  · replace hf := xi_neg hf qc17
    refine XS.go (s_iconst (v := 1) rfl rfl) ?_
    refine XS.go (s_goto (tgt := 145) rfl rfl) ?_
    exact XR.forget (L2 := [some (.ref 1262), some (.int x1), none, none, none]) ⟨rfl, ⟨rfl, trivial⟩⟩ (kb_m_structBody_145 hK35 L16 hf)
def s_m_structBody_35 (K35 : Int32 → Int32 → XH → Option (Unit × XH)) (x1 : Int32) (x2 : Int32) (h : XH) : Option (Unit × XH) := (if x2 = 0 then (b_m_structBody_149 x1 h) else (if ¬ (hi h 1262 14) = 0 then (b_m_structBody_149 x1 h) else (if 0 ≤ x1 ∧ x1 < nI 12 then (Option.bind (f_m_fresh 1276 (12 * x1) (hi h 1273 (Int32.toNatClampNeg x1)) 12 h) fun r21 => (Option.bind (f_m_take r21.2) fun r24 => (Option.bind (f_m_sign 58 r24.2) fun r27 => (Option.bind (f_m_structType x1 ((12 * x1) + (hi h 1273 (Int32.toNatClampNeg x1))) r27.2) fun r30 => (Option.bind (f_m_sign 59 r30.2) fun r33 => (if ¬ (hi r33.2 1262 14) = 0 then (b_m_structBody_131 K35 x1 r33.2) else (if 0 ≤ ((12 * x1) + (hi h 1273 (Int32.toNatClampNeg x1))) ∧ ((12 * x1) + (hi h 1273 (Int32.toNatClampNeg x1))) < nI 144 then (if 0 ≤ x1 ∧ x1 < nI 12 then (b_m_structBody_131 K35 x1 (hsi (hsi r33.2 1276 (Int32.toNatClampNeg ((12 * x1) + (hi h 1273 (Int32.toNatClampNeg x1)))) (hi r21.2 1262 13)) 1273 (Int32.toNatClampNeg x1) ((hi r33.2 1273 (Int32.toNatClampNeg x1)) + 1))) else none) else none))))))) else none)))
set_option maxRecDepth 20000 in
theorem ks_m_structBody_35 {l : Launch} {G : XG} {d : Nat} {K35 : Int32 → Int32 → XH → Option (Unit × XH)} {x1 : Int32} {x2 : Int32} {h : XH} {r : Unit × XH} (hK35 : ∀ (x1 : Int32) (x2 : Int32) (h : XH), LY h → K35 x1 x2 h = some r → XR l G xEX12_structBody (d + 3) (35, [some (.ref 1262), some (.int x1), some (.int x2), none, none], [], h) (fun C => ∃ v, xRet xEX12_structBody C v ∧ (C.2.2.2 = r.2 ∧ v = none) ∧ LY r.2)) (L0 : LY h) (hf : s_m_structBody_35 K35 x1 x2 h = some r) : XR l G xEX12_structBody (d + 3) (35, [some (.ref 1262), some (.int x1), some (.int x2), none, none], [], h) (fun C => ∃ v, xRet xEX12_structBody C v ∧ (C.2.2.2 = r.2 ∧ v = none) ∧ LY r.2) := by
  unfold s_m_structBody_35 at hf
  refine XS.go (s_iloadn rfl rfl rfl) ?_
  refine r_if_eq (tgt := 149) rfl rfl (fun qc18 => ?_) (fun qc18 => ?_)
  · replace hf := xi_pos hf qc18
    exact XR.forget (L2 := [some (.ref 1262), some (.int x1), none, none, none]) ⟨rfl, ⟨rfl, trivial⟩⟩ (kb_m_structBody_149 L0 hf)
  · replace hf := xi_neg hf qc18
    refine XS.go (s_aloadn rfl rfl rfl) ?_
    refine XS.go (s_getie rfl xf12_221 (LY.lt L0 (by decide)) (LY.k1262 L0) (by decide) rfl rfl) ?_
    refine r_if_ne (tgt := 149) rfl rfl (fun qc19 => ?_) (fun qc19 => ?_)
    · replace hf := xi_pos hf qc19
      exact XR.forget (L2 := [some (.ref 1262), some (.int x1), none, none, none]) ⟨rfl, ⟨rfl, trivial⟩⟩ (kb_m_structBody_149 L0 hf)
    · replace hf := xi_neg hf qc19
      refine XS.go (s_bipush (v := 12) rfl rfl) ?_
      refine XS.go (s_iloadn rfl rfl rfl) ?_
      refine XS.go (s_imul rfl) ?_
      refine XS.go (s_aloadn rfl rfl rfl) ?_
      refine XS.go (s_getr rfl xf12_40 (LY.lt L0 (by decide)) (LY.k1262 L0) (by decide) rfl (LY.r1262_21 L0)) ?_
      refine XS.go (s_iloadn rfl rfl rfl) ?_
      replace hf := xi_none hf
      obtain ⟨qk20, hf⟩ := hf
      refine XS.go (s_ialde rfl (LY.lt L0 (by decide)) (LY.k1273 L0) (inLit (LY.n1273 L0) qk20.1 qk20.2 (by decide)) rfl) ?_
      refine XS.go (s_iadd rfl) ?_
      refine XS.go (XS.lcl (L3 := [some (.ref 1262), some (.int x1), some (.int x2), some (.int ((12 * x1) + (hi h 1273 (Int32.toNatClampNeg x1)))), none]) (s_istoren rfl rfl (Nat.le_of_ble_eq_true rfl)) rfl) ?_
      refine XS.go (s_aloadn rfl rfl rfl) ?_
      refine XS.go (s_aloadn rfl rfl rfl) ?_
      refine XS.go (s_getr rfl xf12_49 (LY.lt L0 (by decide)) (LY.k1262 L0) (by decide) rfl (LY.r1262_24 L0)) ?_
      refine XS.go (s_bipush (v := 12) rfl rfl) ?_
      refine XS.go (s_iloadn rfl rfl rfl) ?_
      refine XS.go (s_imul rfl) ?_
      refine XS.go (s_aloadn rfl rfl rfl) ?_
      refine XS.go (s_getr rfl xf12_40 (LY.lt L0 (by decide)) (LY.k1262 L0) (by decide) rfl (LY.r1262_21 L0)) ?_
      refine XS.go (s_iloadn rfl rfl rfl) ?_
      refine XS.go (s_ialde rfl (LY.lt L0 (by decide)) (LY.k1273 L0) (inLit (LY.n1273 L0) qk20.1 qk20.2 (by decide)) rfl) ?_
      refine XS.go (s_bipush (v := 12) rfl rfl) ?_
      replace hf := xb_some hf
      obtain ⟨r21, e22, hf⟩ := hf
      refine r_callv rfl xvX12_fresh xm12_301 (kf_m_fresh (d := d) L0 e22) (LY.lt L0 (by decide)) (LY.k1262 L0) (by decide) rfl rfl (dl (by decide)) (by decide) (Nat.le_of_ble_eq_true rfl) ?_
      rintro _ _ ⟨⟨rfl, rfl⟩, L23⟩
      refine XS.go (s_aloadn rfl rfl rfl) ?_
      refine XS.go (s_getie rfl xf12_224 (LY.lt L23 (by decide)) (LY.k1262 L23) (by decide) rfl rfl) ?_
      refine XS.go (XS.lcl (L3 := [some (.ref 1262), some (.int x1), some (.int x2), some (.int ((12 * x1) + (hi h 1273 (Int32.toNatClampNeg x1)))), some (.int (hi r21.2 1262 13))]) (s_istore rfl (Nat.le_of_ble_eq_true rfl)) rfl) ?_
      refine XS.go (s_aloadn rfl rfl rfl) ?_
      replace hf := xb_some hf
      obtain ⟨r24, e25, hf⟩ := hf
      refine r_callv rfl xvX12_take xm12_240 (kf_m_take (d := d) L23 e25) (LY.lt L23 (by decide)) (LY.k1262 L23) (by decide) rfl rfl (dl0 (by decide)) (by decide) (Nat.le_of_ble_eq_true rfl) ?_
      rintro _ _ ⟨⟨rfl, rfl⟩, L26⟩
      refine XS.go (s_aloadn rfl rfl rfl) ?_
      refine XS.go (s_bipush (v := 58) rfl rfl) ?_
      replace hf := xb_some hf
      obtain ⟨r27, e28, hf⟩ := hf
      refine r_callv rfl xvX12_sign xm12_282 (kf_m_sign (d := d) L26 e28) (LY.lt L26 (by decide)) (LY.k1262 L26) (by decide) rfl rfl (dl (by decide)) (by decide) (Nat.le_of_ble_eq_true rfl) ?_
      rintro _ _ ⟨⟨rfl, rfl⟩, L29⟩
      refine XS.go (s_aloadn rfl rfl rfl) ?_
      refine XS.go (s_iloadn rfl rfl rfl) ?_
      refine XS.go (s_iloadn rfl rfl rfl) ?_
      replace hf := xb_some hf
      obtain ⟨r30, e31, hf⟩ := hf
      refine r_callv rfl xvX12_structType xm12_305 (kf_m_structType (d := d) L29 e31) (LY.lt L29 (by decide)) (LY.k1262 L29) (by decide) rfl rfl (dl (by decide)) (by decide) (Nat.le_of_ble_eq_true rfl) ?_
      rintro _ _ ⟨⟨rfl, rfl⟩, L32⟩
      refine XS.go (s_aloadn rfl rfl rfl) ?_
      refine XS.go (s_bipush (v := 59) rfl rfl) ?_
      replace hf := xb_some hf
      obtain ⟨r33, e34, hf⟩ := hf
      refine r_callv rfl xvX12_sign xm12_282 (kf_m_sign (d := d) L32 e34) (LY.lt L32 (by decide)) (LY.k1262 L32) (by decide) rfl rfl (dl (by decide)) (by decide) (Nat.le_of_ble_eq_true rfl) ?_
      rintro _ _ ⟨⟨rfl, rfl⟩, L35⟩
      refine XS.go (s_aloadn rfl rfl rfl) ?_
      refine XS.go (s_getie rfl xf12_221 (LY.lt L35 (by decide)) (LY.k1262 L35) (by decide) rfl rfl) ?_
      refine r_if_ne (tgt := 131) rfl rfl (fun qc36 => ?_) (fun qc36 => ?_)
      · replace hf := xi_pos hf qc36
        exact XR.forget (L2 := [some (.ref 1262), some (.int x1), none, none, none]) ⟨rfl, ⟨rfl, trivial⟩⟩ (kb_m_structBody_131 hK35 L35 hf)
      · replace hf := xi_neg hf qc36
        refine XS.go (s_aloadn rfl rfl rfl) ?_
        refine XS.go (s_getr rfl xf12_49 (LY.lt L35 (by decide)) (LY.k1262 L35) (by decide) rfl (LY.r1262_24 L35)) ?_
        refine XS.go (s_iloadn rfl rfl rfl) ?_
        refine XS.go (s_iload rfl rfl) ?_
        replace hf := xi_none hf
        obtain ⟨qk37, hf⟩ := hf
        refine XS.go (s_iast rfl (LY.lt L35 (by decide)) (LY.k1276 L35) (inLit (LY.n1276 L35) qk37.1 qk37.2 (by decide))) ?_
        refine XS.go (s_aloadn rfl rfl rfl) ?_
        refine XS.go (s_getr rfl xf12_40 (LY.lt (by simp only [LY_si, LY_sj]; exact L35) (by decide)) (LY.k1262 (by simp only [LY_si, LY_sj]; exact L35)) (by decide) rfl (LY.r1262_21 (by simp only [LY_si, LY_sj]; exact L35))) ?_
        refine XS.go (s_iloadn rfl rfl rfl) ?_
        refine XS.go (s_dup2 rfl rfl rfl) ?_
        replace hf := xi_none hf
        obtain ⟨qk38, hf⟩ := hf
        refine XS.go (s_ialde rfl (LY.lt (by simp only [LY_si, LY_sj]; exact L35) (by decide)) (LY.k1273 (by simp only [LY_si, LY_sj]; exact L35)) (inLit (LY.n1273 (by simp only [LY_si, LY_sj]; exact L35)) qk38.1 qk38.2 (by decide)) (hi_hsi_na (by decide))) ?_
        refine XS.go (s_iconst (v := 1) rfl rfl) ?_
        refine XS.go (s_iadd rfl) ?_
        refine XS.go (s_iast rfl (LY.lt (by simp only [LY_si, LY_sj]; exact L35) (by decide)) (LY.k1273 (by simp only [LY_si, LY_sj]; exact L35)) (inLit (LY.n1273 (by simp only [LY_si, LY_sj]; exact L35)) qk38.1 qk38.2 (by decide))) ?_
        exact XR.forget (L2 := [some (.ref 1262), some (.int x1), none, none, none]) ⟨rfl, ⟨rfl, trivial⟩⟩ (kb_m_structBody_131 hK35 (by simp only [LY_si, LY_sj]; exact L35) hf)
def b_m_structBody_35 : Nat → Int32 → Int32 → XH → Option (Unit × XH)
  | 0, _, _, _ => none
  | n + 1, x1, x2, h => s_m_structBody_35 (b_m_structBody_35 n) x1 x2 h
theorem kb_m_structBody_35 {l : Launch} {G : XG} {d : Nat} {n : Nat} {x1 : Int32} {x2 : Int32} {h : XH} {r : Unit × XH} (L0 : LY h) (hf : b_m_structBody_35 n x1 x2 h = some r) : XR l G xEX12_structBody (d + 3) (35, [some (.ref 1262), some (.int x1), some (.int x2), none, none], [], h) (fun C => ∃ v, xRet xEX12_structBody C v ∧ (C.2.2.2 = r.2 ∧ v = none) ∧ LY r.2) := by
  induction n generalizing x1 x2 h with
  | zero => cases hf
  | succ n ih => exact ks_m_structBody_35 (fun x1 x2 h L0 hf => ih (h := h) (x1 := x1) (x2 := x2) L0 hf) L0 hf
def f_m_structBody (h : XH) : Option (Unit × XH) := (if 0 ≤ (hi h 1262 20) ∧ (hi h 1262 20) < nI 12 then (b_m_structBody_35 100000 (hi h 1262 20) 1 (hsi (hsi (hsi (hsi h 1273 (Int32.toNatClampNeg (hi h 1262 20)) 0) 1274 (Int32.toNatClampNeg (hi h 1262 20)) 0) 1275 (Int32.toNatClampNeg (hi h 1262 20)) 1) 1280 (Int32.toNatClampNeg (hi h 1262 20)) 0)) else none)
set_option maxRecDepth 20000 in
theorem kf_m_structBody {l : Launch} {G : XG} {d : Nat} {h : XH} {r : Unit × XH} (L0 : LY h) (hf : f_m_structBody h = some r) : XC l G xEX12_structBody (d + 3) [.ref 1262] h (fun v h2 => (h2 = r.2 ∧ v = none) ∧ LY r.2) := by
  refine XC.virt xvX12_structBody (Nat.le_of_ble_eq_true rfl) ?_
  unfold f_m_structBody at hf
  refine XR.norm (L3 := [some (.ref 1262), none, none, none, none]) rfl ?_
  refine XS.go (s_aloadn rfl rfl rfl) ?_
  refine XS.go (s_getie rfl xf12_254 (LY.lt L0 (by decide)) (LY.k1262 L0) (by decide) rfl rfl) ?_
  refine XS.go (XS.lcl (L3 := [some (.ref 1262), some (.int (hi h 1262 20)), none, none, none]) (s_istoren rfl rfl (Nat.le_of_ble_eq_true rfl)) rfl) ?_
  refine XS.go (s_aloadn rfl rfl rfl) ?_
  refine XS.go (s_getr rfl xf12_40 (LY.lt L0 (by decide)) (LY.k1262 L0) (by decide) rfl (LY.r1262_21 L0)) ?_
  refine XS.go (s_iloadn rfl rfl rfl) ?_
  refine XS.go (s_iconst (v := 0) rfl rfl) ?_
  replace hf := xi_none hf
  obtain ⟨qk39, hf⟩ := hf
  refine XS.go (s_iast rfl (LY.lt L0 (by decide)) (LY.k1273 L0) (inLit (LY.n1273 L0) qk39.1 qk39.2 (by decide))) ?_
  refine XS.go (s_aloadn rfl rfl rfl) ?_
  refine XS.go (s_getr rfl xf12_43 (LY.lt (by simp only [LY_si, LY_sj]; exact L0) (by decide)) (LY.k1262 (by simp only [LY_si, LY_sj]; exact L0)) (by decide) rfl (LY.r1262_22 (by simp only [LY_si, LY_sj]; exact L0))) ?_
  refine XS.go (s_iloadn rfl rfl rfl) ?_
  refine XS.go (s_iconst (v := 0) rfl rfl) ?_
  refine XS.go (s_iast rfl (LY.lt (by simp only [LY_si, LY_sj]; exact L0) (by decide)) (LY.k1274 (by simp only [LY_si, LY_sj]; exact L0)) (inLit (LY.n1274 (by simp only [LY_si, LY_sj]; exact L0)) qk39.1 qk39.2 (by decide))) ?_
  refine XS.go (s_aloadn rfl rfl rfl) ?_
  refine XS.go (s_getr rfl xf12_46 (LY.lt (by simp only [LY_si, LY_sj]; exact L0) (by decide)) (LY.k1262 (by simp only [LY_si, LY_sj]; exact L0)) (by decide) rfl (LY.r1262_23 (by simp only [LY_si, LY_sj]; exact L0))) ?_
  refine XS.go (s_iloadn rfl rfl rfl) ?_
  refine XS.go (s_iconst (v := 1) rfl rfl) ?_
  refine XS.go (s_iast rfl (LY.lt (by simp only [LY_si, LY_sj]; exact L0) (by decide)) (LY.k1275 (by simp only [LY_si, LY_sj]; exact L0)) (inLit (LY.n1275 (by simp only [LY_si, LY_sj]; exact L0)) qk39.1 qk39.2 (by decide))) ?_
  refine XS.go (s_aloadn rfl rfl rfl) ?_
  refine XS.go (s_getr rfl xf12_61 (LY.lt (by simp only [LY_si, LY_sj]; exact L0) (by decide)) (LY.k1262 (by simp only [LY_si, LY_sj]; exact L0)) (by decide) rfl (LY.r1262_28 (by simp only [LY_si, LY_sj]; exact L0))) ?_
  refine XS.go (s_iloadn rfl rfl rfl) ?_
  refine XS.go (s_iconst (v := 0) rfl rfl) ?_
  refine XS.go (s_iast rfl (LY.lt (by simp only [LY_si, LY_sj]; exact L0) (by decide)) (LY.k1280 (by simp only [LY_si, LY_sj]; exact L0)) (inLit (LY.n1280 (by simp only [LY_si, LY_sj]; exact L0)) qk39.1 qk39.2 (by decide))) ?_
  refine XS.go (s_iconst (v := 1) rfl rfl) ?_
  refine XS.go (XS.lcl (L3 := [some (.ref 1262), some (.int (hi h 1262 20)), some (.int 1), none, none]) (s_istoren rfl rfl (Nat.le_of_ble_eq_true rfl)) rfl) ?_
  exact XR.forget (L2 := [some (.ref 1262), some (.int (hi h 1262 20)), some (.int 1), none, none]) ⟨rfl, ⟨rfl, ⟨rfl, trivial⟩⟩⟩ (kb_m_structBody_35 (by simp only [LY_si, LY_sj]; exact L0) hf)
def b_m_isValue_122 (h : XH) : Option (Int32 × XH) := (some (0, h))
set_option maxRecDepth 20000 in
theorem kb_m_isValue_122 {l : Launch} {G : XG} {d : Nat} {h : XH} {r : Int32 × XH} (L0 : LY h) (hf : b_m_isValue_122 h = some r) : XR l G xEX12_isValue (d + 1) (122, [none, none, none, none, none], [], h) (fun C => ∃ v, xRet xEX12_isValue C v ∧ (C.2.2.2 = r.2 ∧ v = some (.int r.1)) ∧ LY r.2) := by
  unfold b_m_isValue_122 at hf
  refine XS.go (s_iconst (v := 0) rfl rfl) ?_
  refine XS.go (s_goto (tgt := 145) rfl rfl) ?_
  cases hf
  exact XR.retz rfl rfl (by decide) (fun hret => ⟨_, hret, ⟨rfl, rfl⟩, L0⟩)
def b_m_isValue_90 (x1 : Int64) (x3 : Int32) (y0 : Int32) (h : XH) : Option (Int32 × XH) := (if y0 = 0 then (if (lg_cmp x1 (0 : Int64)) < 0 then (some (0, h)) else (if 0 ≤ (lg_cmp x1 ((1 : Int64) <<< ((Int32.toInt64 x3) &&& 63))) then (some (0, h)) else (some (1, h)))) else (if (lg_cmp x1 (-((1 : Int64) <<< ((Int32.toInt64 (x3 - 1)) &&& 63)))) < 0 then (b_m_isValue_122 h) else (if 0 ≤ (lg_cmp x1 ((1 : Int64) <<< ((Int32.toInt64 (x3 - 1)) &&& 63))) then (b_m_isValue_122 h) else (some (1, h)))))
set_option maxRecDepth 20000 in
theorem kb_m_isValue_90 {l : Launch} {G : XG} {d : Nat} {x1 : Int64} {x3 : Int32} {y0 : Int32} {h : XH} {r : Int32 × XH} (L0 : LY h) (hf : b_m_isValue_90 x1 x3 y0 h = some r) : XR l G xEX12_isValue (d + 1) (90, [none, some (.long x1), none, some (.int x3), none], [(.int y0)], h) (fun C => ∃ v, xRet xEX12_isValue C v ∧ (C.2.2.2 = r.2 ∧ v = some (.int r.1)) ∧ LY r.2) := by
  unfold b_m_isValue_90 at hf
  refine XS.go (XS.lcl (L3 := [none, some (.long x1), none, some (.int x3), some (.int y0)]) (s_istore rfl (Nat.le_of_ble_eq_true rfl)) rfl) ?_
  refine XS.go (s_iload rfl rfl) ?_
  refine r_if_eq (tgt := 126) rfl rfl (fun qc1 => ?_) (fun qc1 => ?_)
  · replace hf := xi_pos hf qc1
    refine XS.go (s_lloadn rfl rfl rfl) ?_
    refine XS.go (s_lconst (v := 0) rfl rfl) ?_
    refine XS.go (s_lcmp rfl) ?_
    refine r_if_lt (tgt := 144) rfl rfl (fun qc2 => ?_) (fun qc2 => ?_)
    · replace hf := xi_pos hf qc2
      refine XS.go (s_iconst (v := 0) rfl rfl) ?_
      cases hf
      exact XR.retz rfl rfl (by decide) (fun hret => ⟨_, hret, ⟨rfl, rfl⟩, L0⟩)
    · replace hf := xi_neg hf qc2
      refine XS.go (s_lloadn rfl rfl rfl) ?_
      refine XS.go (s_lconst (v := 1) rfl rfl) ?_
      refine XS.go (s_iloadn rfl rfl rfl) ?_
      refine XS.go (s_lshl rfl) ?_
      refine XS.go (s_lcmp rfl) ?_
      refine r_if_ge (tgt := 144) rfl rfl (fun qc3 => ?_) (fun qc3 => ?_)
      · replace hf := xi_pos hf qc3
        refine XS.go (s_iconst (v := 0) rfl rfl) ?_
        cases hf
        exact XR.retz rfl rfl (by decide) (fun hret => ⟨_, hret, ⟨rfl, rfl⟩, L0⟩)
      · replace hf := xi_neg hf qc3
        refine XS.go (s_iconst (v := 1) rfl rfl) ?_
        refine XS.go (s_goto (tgt := 145) rfl rfl) ?_
        cases hf
        exact XR.retz rfl rfl (by decide) (fun hret => ⟨_, hret, ⟨rfl, rfl⟩, L0⟩)
  · replace hf := xi_neg hf qc1
    refine XS.go (s_lloadn rfl rfl rfl) ?_
    refine XS.go (s_lconst (v := 1) rfl rfl) ?_
    refine XS.go (s_iloadn rfl rfl rfl) ?_
    refine XS.go (s_iconst (v := 1) rfl rfl) ?_
    refine XS.go (s_isub rfl) ?_
    refine XS.go (s_lshl rfl) ?_
    refine XS.go (s_lneg rfl) ?_
    refine XS.go (s_lcmp rfl) ?_
    refine r_if_lt (tgt := 122) rfl rfl (fun qc4 => ?_) (fun qc4 => ?_)
    · replace hf := xi_pos hf qc4
      exact XR.forget (L2 := [none, none, none, none, none]) trivial (kb_m_isValue_122 L0 hf)
    · replace hf := xi_neg hf qc4
      refine XS.go (s_lloadn rfl rfl rfl) ?_
      refine XS.go (s_lconst (v := 1) rfl rfl) ?_
      refine XS.go (s_iloadn rfl rfl rfl) ?_
      refine XS.go (s_iconst (v := 1) rfl rfl) ?_
      refine XS.go (s_isub rfl) ?_
      refine XS.go (s_lshl rfl) ?_
      refine XS.go (s_lcmp rfl) ?_
      refine r_if_ge (tgt := 122) rfl rfl (fun qc5 => ?_) (fun qc5 => ?_)
      · replace hf := xi_pos hf qc5
        exact XR.forget (L2 := [none, none, none, none, none]) trivial (kb_m_isValue_122 L0 hf)
      · replace hf := xi_neg hf qc5
        refine XS.go (s_iconst (v := 1) rfl rfl) ?_
        refine XS.go (s_goto (tgt := 145) rfl rfl) ?_
        cases hf
        exact XR.retz rfl rfl (by decide) (fun hret => ⟨_, hret, ⟨rfl, rfl⟩, L0⟩)
def b_m_isValue_85 (x1 : Int64) (x3 : Int32) (h : XH) : Option (Int32 × XH) := (b_m_isValue_90 x1 x3 1 h)
set_option maxRecDepth 20000 in
theorem kb_m_isValue_85 {l : Launch} {G : XG} {d : Nat} {x1 : Int64} {x3 : Int32} {h : XH} {r : Int32 × XH} (L0 : LY h) (hf : b_m_isValue_85 x1 x3 h = some r) : XR l G xEX12_isValue (d + 1) (85, [none, some (.long x1), none, some (.int x3), none], [], h) (fun C => ∃ v, xRet xEX12_isValue C v ∧ (C.2.2.2 = r.2 ∧ v = some (.int r.1)) ∧ LY r.2) := by
  unfold b_m_isValue_85 at hf
  refine XS.go (s_iconst (v := 1) rfl rfl) ?_
  refine XS.go (s_goto (tgt := 90) rfl rfl) ?_
  exact XR.forget (L2 := [none, some (.long x1), none, some (.int x3), none]) ⟨rfl, ⟨rfl, trivial⟩⟩ (kb_m_isValue_90 L0 hf)
def b_m_isValue_16 (h : XH) : Option (Int32 × XH) := (some (1, h))
set_option maxRecDepth 20000 in
theorem kb_m_isValue_16 {l : Launch} {G : XG} {d : Nat} {h : XH} {r : Int32 × XH} (L0 : LY h) (hf : b_m_isValue_16 h = some r) : XR l G xEX12_isValue (d + 1) (16, [none, none, none, none, none], [], h) (fun C => ∃ v, xRet xEX12_isValue C v ∧ (C.2.2.2 = r.2 ∧ v = some (.int r.1)) ∧ LY r.2) := by
  unfold b_m_isValue_16 at hf
  refine XS.go (s_iconst (v := 1) rfl rfl) ?_
  refine XS.go (s_goto (tgt := 21) rfl rfl) ?_
  cases hf
  exact XR.retz rfl rfl (by decide) (fun hret => ⟨_, hret, ⟨rfl, rfl⟩, L0⟩)
def f_m_isValue (a0 : Int32) (a1 : Int64) (h : XH) : Option (Int32 × XH) := (if ¬ a0 = 0 then (if a0 = 7 then (some (1, h)) else (if a0 = 8 then (some (1, h)) else (if ¬ a0 = 10 then (if ¬ a0 = 9 then (Option.bind (f_m_bytesOf a0 h) fun r11 => (if a0 = 1 then (b_m_isValue_85 a1 (8 * r11.1) r11.2) else (if a0 = 3 then (b_m_isValue_85 a1 (8 * r11.1) r11.2) else (if ¬ a0 = 5 then (b_m_isValue_90 a1 (8 * r11.1) 0 r11.2) else (b_m_isValue_85 a1 (8 * r11.1) r11.2))))) else (if ¬ (lg_cmp a1 (Int32.toInt64 (Int64.toInt32 a1))) = 0 then (some (0, h)) else (some (1, h)))) else (some (1, h))))) else (if (lg_cmp a1 (0 : Int64)) = 0 then (b_m_isValue_16 h) else (if ¬ (lg_cmp a1 (1 : Int64)) = 0 then (some (0, h)) else (b_m_isValue_16 h))))
set_option maxRecDepth 20000 in
theorem kf_m_isValue {l : Launch} {G : XG} {d : Nat} {a0 : Int32} {a1 : Int64} {h : XH} {r : Int32 × XH} (L0 : LY h) (hf : f_m_isValue a0 a1 h = some r) : XC l G xEX12_isValue (d + 1) [.int a0, .long a1] h (fun v h2 => (h2 = r.2 ∧ v = some (.int r.1)) ∧ LY r.2) := by
  refine XC.stat xsX12_isValue (Nat.le_of_ble_eq_true rfl) ?_
  unfold f_m_isValue at hf
  refine XR.norm (L3 := [some (.int a0), some (.long a1), none, none, none]) rfl ?_
  refine XS.go (s_iloadn rfl rfl rfl) ?_
  refine r_if_ne (tgt := 22) rfl rfl (fun qc6 => ?_) (fun qc6 => ?_)
  · replace hf := xi_pos hf qc6
    refine XS.go (s_iloadn rfl rfl rfl) ?_
    refine XS.go (s_bipush (v := 7) rfl rfl) ?_
    refine r_icmp_eq (tgt := 40) rfl rfl (fun qc7 => ?_) (fun qc7 => ?_)
    · replace hf := xi_pos hf qc7
      refine XS.go (s_iconst (v := 1) rfl rfl) ?_
      cases hf
      exact XR.retz rfl rfl (by decide) (fun hret => ⟨_, hret, ⟨rfl, rfl⟩, L0⟩)
    · replace hf := xi_neg hf qc7
      refine XS.go (s_iloadn rfl rfl rfl) ?_
      refine XS.go (s_bipush (v := 8) rfl rfl) ?_
      refine r_icmp_eq (tgt := 40) rfl rfl (fun qc8 => ?_) (fun qc8 => ?_)
      · replace hf := xi_pos hf qc8
        refine XS.go (s_iconst (v := 1) rfl rfl) ?_
        cases hf
        exact XR.retz rfl rfl (by decide) (fun hret => ⟨_, hret, ⟨rfl, rfl⟩, L0⟩)
      · replace hf := xi_neg hf qc8
        refine XS.go (s_iloadn rfl rfl rfl) ?_
        refine XS.go (s_bipush (v := 10) rfl rfl) ?_
        refine r_icmp_ne (tgt := 42) rfl rfl (fun qc9 => ?_) (fun qc9 => ?_)
        · replace hf := xi_pos hf qc9
          refine XS.go (s_iloadn rfl rfl rfl) ?_
          refine XS.go (s_bipush (v := 9) rfl rfl) ?_
          refine r_icmp_ne (tgt := 62) rfl rfl (fun qc10 => ?_) (fun qc10 => ?_)
          · replace hf := xi_pos hf qc10
            refine XS.go (s_bipush (v := 8) rfl rfl) ?_
            refine XS.go (s_iloadn rfl rfl rfl) ?_
            replace hf := xb_some hf
            obtain ⟨r11, e12, hf⟩ := hf
            refine r_calls rfl xsX12_bytesOf xm12_315 (kf_m_bytesOf (d := d) L0 e12) rfl rfl (dl0 (by decide)) (by decide) (Nat.le_of_ble_eq_true rfl) ?_
            rintro _ _ ⟨⟨rfl, rfl⟩, L13⟩
            refine XS.go (s_imul rfl) ?_
            refine XS.go (XS.lcl (L3 := [some (.int a0), some (.long a1), none, some (.int (8 * r11.1)), none]) (s_istoren rfl rfl (Nat.le_of_ble_eq_true rfl)) rfl) ?_
            refine XS.go (s_iloadn rfl rfl rfl) ?_
            refine XS.go (s_iconst (v := 1) rfl rfl) ?_
            refine r_icmp_eq (tgt := 85) rfl rfl (fun qc14 => ?_) (fun qc14 => ?_)
            · replace hf := xi_pos hf qc14
              exact XR.forget (L2 := [none, some (.long a1), none, some (.int (8 * r11.1)), none]) ⟨rfl, ⟨rfl, trivial⟩⟩ (kb_m_isValue_85 L13 hf)
            · replace hf := xi_neg hf qc14
              refine XS.go (s_iloadn rfl rfl rfl) ?_
              refine XS.go (s_iconst (v := 3) rfl rfl) ?_
              refine r_icmp_eq (tgt := 85) rfl rfl (fun qc15 => ?_) (fun qc15 => ?_)
              · replace hf := xi_pos hf qc15
                exact XR.forget (L2 := [none, some (.long a1), none, some (.int (8 * r11.1)), none]) ⟨rfl, ⟨rfl, trivial⟩⟩ (kb_m_isValue_85 L13 hf)
              · replace hf := xi_neg hf qc15
                refine XS.go (s_iloadn rfl rfl rfl) ?_
                refine XS.go (s_iconst (v := 5) rfl rfl) ?_
                refine r_icmp_ne (tgt := 89) rfl rfl (fun qc16 => ?_) (fun qc16 => ?_)
                · replace hf := xi_pos hf qc16
                  refine XS.go (s_iconst (v := 0) rfl rfl) ?_
                  exact XR.forget (L2 := [none, some (.long a1), none, some (.int (8 * r11.1)), none]) ⟨rfl, ⟨rfl, trivial⟩⟩ (kb_m_isValue_90 L13 hf)
                · replace hf := xi_neg hf qc16
                  exact XR.forget (L2 := [none, some (.long a1), none, some (.int (8 * r11.1)), none]) ⟨rfl, ⟨rfl, trivial⟩⟩ (kb_m_isValue_85 L13 hf)
          · replace hf := xi_neg hf qc10
            refine XS.go (s_lloadn rfl rfl rfl) ?_
            refine XS.go (s_lloadn rfl rfl rfl) ?_
            refine XS.go (s_l2i rfl) ?_
            refine XS.go (s_i2l rfl) ?_
            refine XS.go (s_lcmp rfl) ?_
            refine r_if_ne (tgt := 60) rfl rfl (fun qc17 => ?_) (fun qc17 => ?_)
            · replace hf := xi_pos hf qc17
              refine XS.go (s_iconst (v := 0) rfl rfl) ?_
              cases hf
              exact XR.retz rfl rfl (by decide) (fun hret => ⟨_, hret, ⟨rfl, rfl⟩, L0⟩)
            · replace hf := xi_neg hf qc17
              refine XS.go (s_iconst (v := 1) rfl rfl) ?_
              refine XS.go (s_goto (tgt := 61) rfl rfl) ?_
              cases hf
              exact XR.retz rfl rfl (by decide) (fun hret => ⟨_, hret, ⟨rfl, rfl⟩, L0⟩)
        · replace hf := xi_neg hf qc9
          refine XS.go (s_iconst (v := 1) rfl rfl) ?_
          cases hf
          exact XR.retz rfl rfl (by decide) (fun hret => ⟨_, hret, ⟨rfl, rfl⟩, L0⟩)
  · replace hf := xi_neg hf qc6
    refine XS.go (s_lloadn rfl rfl rfl) ?_
    refine XS.go (s_lconst (v := 0) rfl rfl) ?_
    refine XS.go (s_lcmp rfl) ?_
    refine r_if_eq (tgt := 16) rfl rfl (fun qc18 => ?_) (fun qc18 => ?_)
    · replace hf := xi_pos hf qc18
      exact XR.forget (L2 := [none, none, none, none, none]) trivial (kb_m_isValue_16 L0 hf)
    · replace hf := xi_neg hf qc18
      refine XS.go (s_lloadn rfl rfl rfl) ?_
      refine XS.go (s_lconst (v := 1) rfl rfl) ?_
      refine XS.go (s_lcmp rfl) ?_
      refine r_if_ne (tgt := 20) rfl rfl (fun qc19 => ?_) (fun qc19 => ?_)
      · replace hf := xi_pos hf qc19
        refine XS.go (s_iconst (v := 0) rfl rfl) ?_
        cases hf
        exact XR.retz rfl rfl (by decide) (fun hret => ⟨_, hret, ⟨rfl, rfl⟩, L0⟩)
      · replace hf := xi_neg hf qc19
        exact XR.forget (L2 := [none, none, none, none, none]) trivial (kb_m_isValue_16 L0 hf)
def b_m_defaults_220 (x1 : Int32) (x3 : Int64) (h : XH) : Option (Unit × XH) := (if 0 ≤ x1 ∧ x1 < nI 256 then (Option.bind (f_m_take (hsj h 1291 (Int32.toNatClampNeg x1) x3)) fun r2 => (some ((), r2.2))) else none)
set_option maxRecDepth 20000 in
theorem kb_m_defaults_220 {l : Launch} {G : XG} {d : Nat} {x1 : Int32} {x3 : Int64} {h : XH} {r : Unit × XH} (L0 : LY h) (hf : b_m_defaults_220 x1 x3 h = some r) : XR l G xEX12_defaults (d + 2) (220, [some (.ref 1262), some (.int x1), none, some (.long x3), none, none], [], h) (fun C => ∃ v, xRet xEX12_defaults C v ∧ (C.2.2.2 = r.2 ∧ v = none) ∧ LY r.2) := by
  unfold b_m_defaults_220 at hf
  refine XS.go (s_aloadn rfl rfl rfl) ?_
  refine XS.go (s_getr rfl xf12_94 (LY.lt L0 (by decide)) (LY.k1262 L0) (by decide) rfl (LY.r1262_40 L0)) ?_
  refine XS.go (s_iloadn rfl rfl rfl) ?_
  refine XS.go (s_lloadn rfl rfl rfl) ?_
  replace hf := xi_none hf
  obtain ⟨qk1, hf⟩ := hf
  refine XS.go (s_last rfl (LY.lt L0 (by decide)) (LY.k1291 L0) (inLit (LY.n1291 L0) qk1.1 qk1.2 (by decide))) ?_
  refine XS.go (s_aloadn rfl rfl rfl) ?_
  replace hf := xb_some hf
  obtain ⟨r2, e3, hf⟩ := hf
  refine r_callv rfl xvX12_take xm12_240 (kf_m_take (d := d) (by simp only [LY_si, LY_sj]; exact L0) e3) (LY.lt (by simp only [LY_si, LY_sj]; exact L0) (by decide)) (LY.k1262 (by simp only [LY_si, LY_sj]; exact L0)) (by decide) rfl rfl (dl0 (by decide)) (by decide) (Nat.le_of_ble_eq_true rfl) ?_
  rintro _ _ ⟨⟨rfl, rfl⟩, L4⟩
  cases hf
  exact XR.retv rfl rfl (fun hret => ⟨_, hret, ⟨rfl, rfl⟩, L4⟩)
def b_m_defaults_213 (h : XH) : Option (Unit × XH) := (Option.bind (f_m_flaw 6 h) fun r5 => (some ((), r5.2)))
set_option maxRecDepth 20000 in
theorem kb_m_defaults_213 {l : Launch} {G : XG} {d : Nat} {h : XH} {r : Unit × XH} (L0 : LY h) (hf : b_m_defaults_213 h = some r) : XR l G xEX12_defaults (d + 2) (213, [some (.ref 1262), none, none, none, none, none], [], h) (fun C => ∃ v, xRet xEX12_defaults C v ∧ (C.2.2.2 = r.2 ∧ v = none) ∧ LY r.2) := by
  unfold b_m_defaults_213 at hf
  refine XS.go (s_aloadn rfl rfl rfl) ?_
  refine XS.go (s_bipush (v := 6) rfl rfl) ?_
  replace hf := xb_some hf
  obtain ⟨r5, e6, hf⟩ := hf
  refine r_callv rfl xvX12_flaw xm12_230 (kf_m_flaw (d := d) L0 e6) (LY.lt L0 (by decide)) (LY.k1262 L0) (by decide) rfl rfl (dl0 (by decide)) (by decide) (Nat.le_of_ble_eq_true rfl) ?_
  rintro _ _ ⟨⟨rfl, rfl⟩, L7⟩
  cases hf
  exact XR.retv rfl rfl (fun hret => ⟨_, hret, ⟨rfl, rfl⟩, L7⟩)
def b_m_defaults_182 (x1 : Int32) (y0 : Int64) (h : XH) : Option (Unit × XH) := (if 0 ≤ x1 ∧ x1 < nI 256 then (Option.bind (f_m_isValue (hi h 1287 (Int32.toNatClampNeg x1)) y0 h) fun r9 => (if r9.1 = 0 then (b_m_defaults_213 r9.2) else (if 0 ≤ x1 ∧ x1 < nI 256 then (if ¬ (hi r9.2 1287 (Int32.toNatClampNeg x1)) = 8 then (b_m_defaults_220 x1 y0 r9.2) else (if 0 ≤ (lg_cmp y0 (0 : Int64)) then (b_m_defaults_220 x1 y0 r9.2) else (b_m_defaults_213 r9.2))) else none))) else none)
set_option maxRecDepth 20000 in
theorem kb_m_defaults_182 {l : Launch} {G : XG} {d : Nat} {x1 : Int32} {y0 : Int64} {h : XH} {r : Unit × XH} (L0 : LY h) (hf : b_m_defaults_182 x1 y0 h = some r) : XR l G xEX12_defaults (d + 2) (182, [some (.ref 1262), some (.int x1), none, none, none, none], [(.long y0)], h) (fun C => ∃ v, xRet xEX12_defaults C v ∧ (C.2.2.2 = r.2 ∧ v = none) ∧ LY r.2) := by
  unfold b_m_defaults_182 at hf
  refine XS.go (XS.lcl (L3 := [some (.ref 1262), some (.int x1), none, some (.long y0), none, none]) (s_lstoren rfl rfl (Nat.le_of_ble_eq_true rfl)) rfl) ?_
  refine XS.go (s_aloadn rfl rfl rfl) ?_
  refine XS.go (s_getr rfl xf12_82 (LY.lt L0 (by decide)) (LY.k1262 L0) (by decide) rfl (LY.r1262_36 L0)) ?_
  refine XS.go (s_iloadn rfl rfl rfl) ?_
  replace hf := xi_none hf
  obtain ⟨qk8, hf⟩ := hf
  refine XS.go (s_ialde rfl (LY.lt L0 (by decide)) (LY.k1287 L0) (inLit (LY.n1287 L0) qk8.1 qk8.2 (by decide)) rfl) ?_
  refine XS.go (s_lloadn rfl rfl rfl) ?_
  replace hf := xb_some hf
  obtain ⟨r9, e10, hf⟩ := hf
  refine r_calls rfl xsX12_isValue xm12_334 (kf_m_isValue (d := d) L0 e10) rfl rfl (dl (by decide)) (by decide) (Nat.le_of_ble_eq_true rfl) ?_
  rintro _ _ ⟨⟨rfl, rfl⟩, L11⟩
  refine r_if_eq (tgt := 213) rfl rfl (fun qc12 => ?_) (fun qc12 => ?_)
  · replace hf := xi_pos hf qc12
    exact XR.forget (L2 := [some (.ref 1262), none, none, none, none, none]) ⟨rfl, trivial⟩ (kb_m_defaults_213 L11 hf)
  · replace hf := xi_neg hf qc12
    refine XS.go (s_aloadn rfl rfl rfl) ?_
    refine XS.go (s_getr rfl xf12_82 (LY.lt L11 (by decide)) (LY.k1262 L11) (by decide) rfl (LY.r1262_36 L11)) ?_
    refine XS.go (s_iloadn rfl rfl rfl) ?_
    replace hf := xi_none hf
    obtain ⟨qk13, hf⟩ := hf
    refine XS.go (s_ialde rfl (LY.lt L11 (by decide)) (LY.k1287 L11) (inLit (LY.n1287 L11) qk13.1 qk13.2 (by decide)) rfl) ?_
    refine XS.go (s_bipush (v := 8) rfl rfl) ?_
    refine r_icmp_ne (tgt := 220) rfl rfl (fun qc14 => ?_) (fun qc14 => ?_)
    · replace hf := xi_pos hf qc14
      exact XR.forget (L2 := [some (.ref 1262), some (.int x1), none, some (.long y0), none, none]) ⟨rfl, ⟨rfl, ⟨rfl, trivial⟩⟩⟩ (kb_m_defaults_220 L11 hf)
    · replace hf := xi_neg hf qc14
      refine XS.go (s_lloadn rfl rfl rfl) ?_
      refine XS.go (s_lconst (v := 0) rfl rfl) ?_
      refine XS.go (s_lcmp rfl) ?_
      refine r_if_ge (tgt := 220) rfl rfl (fun qc15 => ?_) (fun qc15 => ?_)
      · replace hf := xi_pos hf qc15
        exact XR.forget (L2 := [some (.ref 1262), some (.int x1), none, some (.long y0), none, none]) ⟨rfl, ⟨rfl, ⟨rfl, trivial⟩⟩⟩ (kb_m_defaults_220 L11 hf)
      · replace hf := xi_neg hf qc15
        exact XR.forget (L2 := [some (.ref 1262), none, none, none, none, none]) ⟨rfl, trivial⟩ (kb_m_defaults_213 L11 hf)
def s_m_defaults_133 (K133 : Int32 → Int32 → Int64 → Int32 → XH → Option (Unit × XH)) (x1 : Int32) (x2 : Int32) (x3 : Int64) (x5 : Int32) (h : XH) : Option (Unit × XH) := (if 0 ≤ (hi h 1262 13) ∧ (hi h 1262 13) < nI 4001 then (if (hi h 1268 (Int32.toNatClampNeg (hi h 1262 13))) ≤ x5 then (if x2 = 0 then (b_m_defaults_182 x1 x3 h) else (b_m_defaults_182 x1 (-x3) h)) else (if 0 ≤ x5 ∧ x5 < nI 4000 then (K133 x1 x2 ((((10 : Int64) * x3) + (Int32.toInt64 (hi h 1264 (Int32.toNatClampNeg x5)))) - (48 : Int64)) (x5 + 1) h) else none)) else none)
set_option maxRecDepth 20000 in
theorem ks_m_defaults_133 {l : Launch} {G : XG} {d : Nat} {K133 : Int32 → Int32 → Int64 → Int32 → XH → Option (Unit × XH)} {x1 : Int32} {x2 : Int32} {x3 : Int64} {x5 : Int32} {h : XH} {r : Unit × XH} (hK133 : ∀ (x1 : Int32) (x2 : Int32) (x3 : Int64) (x5 : Int32) (h : XH), LY h → K133 x1 x2 x3 x5 h = some r → XR l G xEX12_defaults (d + 2) (133, [some (.ref 1262), some (.int x1), some (.int x2), some (.long x3), none, some (.int x5)], [], h) (fun C => ∃ v, xRet xEX12_defaults C v ∧ (C.2.2.2 = r.2 ∧ v = none) ∧ LY r.2)) (L0 : LY h) (hf : s_m_defaults_133 K133 x1 x2 x3 x5 h = some r) : XR l G xEX12_defaults (d + 2) (133, [some (.ref 1262), some (.int x1), some (.int x2), some (.long x3), none, some (.int x5)], [], h) (fun C => ∃ v, xRet xEX12_defaults C v ∧ (C.2.2.2 = r.2 ∧ v = none) ∧ LY r.2) := by
  unfold s_m_defaults_133 at hf
  refine XS.go (s_iload rfl rfl) ?_
  refine XS.go (s_aloadn rfl rfl rfl) ?_
  refine XS.go (s_getr rfl xf12_25 (LY.lt L0 (by decide)) (LY.k1262 L0) (by decide) rfl (LY.r1262_10 L0)) ?_
  refine XS.go (s_aloadn rfl rfl rfl) ?_
  refine XS.go (s_getie rfl xf12_224 (LY.lt L0 (by decide)) (LY.k1262 L0) (by decide) rfl rfl) ?_
  replace hf := xi_none hf
  obtain ⟨qk16, hf⟩ := hf
  refine XS.go (s_ialde rfl (LY.lt L0 (by decide)) (LY.k1268 L0) (inLit (LY.n1268 L0) qk16.1 qk16.2 (by decide)) rfl) ?_
  refine r_icmp_ge (tgt := 172) rfl rfl (fun qc17 => ?_) (fun qc17 => ?_)
  · replace hf := xi_pos hf qc17
    refine XS.go (s_iloadn rfl rfl rfl) ?_
    refine r_if_eq (tgt := 181) rfl rfl (fun qc18 => ?_) (fun qc18 => ?_)
    · replace hf := xi_pos hf qc18
      refine XS.go (s_lloadn rfl rfl rfl) ?_
      exact XR.forget (L2 := [some (.ref 1262), some (.int x1), none, none, none, none]) ⟨rfl, ⟨rfl, trivial⟩⟩ (kb_m_defaults_182 L0 hf)
    · replace hf := xi_neg hf qc18
      refine XS.go (s_lloadn rfl rfl rfl) ?_
      refine XS.go (s_lneg rfl) ?_
      refine XS.go (s_goto (tgt := 182) rfl rfl) ?_
      exact XR.forget (L2 := [some (.ref 1262), some (.int x1), none, none, none, none]) ⟨rfl, ⟨rfl, trivial⟩⟩ (kb_m_defaults_182 L0 hf)
  · replace hf := xi_neg hf qc17
    refine XS.go (s_ldc2 rfl (lg_9 2 rfl rfl)) ?_
    refine XS.go (s_lloadn rfl rfl rfl) ?_
    refine XS.go (s_lmul rfl) ?_
    refine XS.go (s_aloadn rfl rfl rfl) ?_
    refine XS.go (s_getr rfl xf12_13 (LY.lt L0 (by decide)) (LY.k1262 L0) (by decide) rfl (LY.r1262_3 L0)) ?_
    refine XS.go (s_iload rfl rfl) ?_
    replace hf := xi_none hf
    obtain ⟨qk19, hf⟩ := hf
    refine XS.go (s_ialde rfl (LY.lt L0 (by decide)) (LY.k1264 L0) (inLit (LY.n1264 L0) qk19.1 qk19.2 (by decide)) rfl) ?_
    refine XS.go (s_i2l rfl) ?_
    refine XS.go (s_ladd rfl) ?_
    refine XS.go (s_ldc2 rfl (lg_9 3 rfl rfl)) ?_
    refine XS.go (s_lsub rfl) ?_
    refine XS.go (XS.lcl (L3 := [some (.ref 1262), some (.int x1), some (.int x2), some (.long ((((10 : Int64) * x3) + (Int32.toInt64 (hi h 1264 (Int32.toNatClampNeg x5)))) - (48 : Int64))), none, some (.int x5)]) (s_lstoren rfl rfl (Nat.le_of_ble_eq_true rfl)) rfl) ?_
    refine XS.go (XS.lcl (L3 := [some (.ref 1262), some (.int x1), some (.int x2), some (.long ((((10 : Int64) * x3) + (Int32.toInt64 (hi h 1264 (Int32.toNatClampNeg x5)))) - (48 : Int64))), none, some (.int (x5 + 1))]) (s_inc rfl rfl (Nat.le_of_ble_eq_true rfl)) rfl) ?_
    refine XS.go (s_goto (tgt := 133) rfl rfl) ?_
    exact XR.forget (L2 := [some (.ref 1262), some (.int x1), some (.int x2), some (.long ((((10 : Int64) * x3) + (Int32.toInt64 (hi h 1264 (Int32.toNatClampNeg x5)))) - (48 : Int64))), none, some (.int (x5 + 1))]) ⟨rfl, ⟨rfl, ⟨rfl, ⟨rfl, ⟨rfl, trivial⟩⟩⟩⟩⟩ (hK133 x1 x2 ((((10 : Int64) * x3) + (Int32.toInt64 (hi h 1264 (Int32.toNatClampNeg x5)))) - (48 : Int64)) (x5 + 1) _ L0 hf)
def b_m_defaults_133 : Nat → Int32 → Int32 → Int64 → Int32 → XH → Option (Unit × XH)
  | 0, _, _, _, _, _ => none
  | n + 1, x1, x2, x3, x5, h => s_m_defaults_133 (b_m_defaults_133 n) x1 x2 x3 x5 h
theorem kb_m_defaults_133 {l : Launch} {G : XG} {d : Nat} {n : Nat} {x1 : Int32} {x2 : Int32} {x3 : Int64} {x5 : Int32} {h : XH} {r : Unit × XH} (L0 : LY h) (hf : b_m_defaults_133 n x1 x2 x3 x5 h = some r) : XR l G xEX12_defaults (d + 2) (133, [some (.ref 1262), some (.int x1), some (.int x2), some (.long x3), none, some (.int x5)], [], h) (fun C => ∃ v, xRet xEX12_defaults C v ∧ (C.2.2.2 = r.2 ∧ v = none) ∧ LY r.2) := by
  induction n generalizing x1 x2 x3 x5 h with
  | zero => cases hf
  | succ n ih => exact ks_m_defaults_133 (fun x1 x2 x3 x5 h L0 hf => ih (h := h) (x1 := x1) (x2 := x2) (x3 := x3) (x5 := x5) L0 hf) L0 hf
def b_m_defaults_130 (x1 : Int32) (x2 : Int32) (x3 : Int64) (y0 : Int32) (y1 : Int32) (h : XH) : Option (Unit × XH) := (b_m_defaults_133 100000 x1 x2 x3 (y0 + y1) h)
set_option maxRecDepth 20000 in
theorem kb_m_defaults_130 {l : Launch} {G : XG} {d : Nat} {x1 : Int32} {x2 : Int32} {x3 : Int64} {y0 : Int32} {y1 : Int32} {h : XH} {r : Unit × XH} (L0 : LY h) (hf : b_m_defaults_130 x1 x2 x3 y0 y1 h = some r) : XR l G xEX12_defaults (d + 2) (130, [some (.ref 1262), some (.int x1), some (.int x2), some (.long x3), none, none], [(.int y1), (.int y0)], h) (fun C => ∃ v, xRet xEX12_defaults C v ∧ (C.2.2.2 = r.2 ∧ v = none) ∧ LY r.2) := by
  unfold b_m_defaults_130 at hf
  refine XS.go (s_iadd rfl) ?_
  refine XS.go (XS.lcl (L3 := [some (.ref 1262), some (.int x1), some (.int x2), some (.long x3), none, some (.int (y0 + y1))]) (s_istore rfl (Nat.le_of_ble_eq_true rfl)) rfl) ?_
  exact XR.forget (L2 := [some (.ref 1262), some (.int x1), some (.int x2), some (.long x3), none, some (.int (y0 + y1))]) ⟨rfl, ⟨rfl, ⟨rfl, ⟨rfl, ⟨rfl, trivial⟩⟩⟩⟩⟩ (kb_m_defaults_133 L0 hf)
def b_m_defaults_109 (x1 : Int32) (y0 : Int32) (h : XH) : Option (Unit × XH) := (if 0 ≤ (hi h 1262 13) ∧ (hi h 1262 13) < nI 4001 then (if y0 = 0 then (b_m_defaults_130 x1 y0 (0 : Int64) (hi h 1267 (Int32.toNatClampNeg (hi h 1262 13))) 0 h) else (b_m_defaults_130 x1 y0 (0 : Int64) (hi h 1267 (Int32.toNatClampNeg (hi h 1262 13))) 1 h)) else none)
set_option maxRecDepth 20000 in
theorem kb_m_defaults_109 {l : Launch} {G : XG} {d : Nat} {x1 : Int32} {y0 : Int32} {h : XH} {r : Unit × XH} (L0 : LY h) (hf : b_m_defaults_109 x1 y0 h = some r) : XR l G xEX12_defaults (d + 2) (109, [some (.ref 1262), some (.int x1), none, none, none, none], [(.int y0)], h) (fun C => ∃ v, xRet xEX12_defaults C v ∧ (C.2.2.2 = r.2 ∧ v = none) ∧ LY r.2) := by
  unfold b_m_defaults_109 at hf
  refine XS.go (XS.lcl (L3 := [some (.ref 1262), some (.int x1), some (.int y0), none, none, none]) (s_istoren rfl rfl (Nat.le_of_ble_eq_true rfl)) rfl) ?_
  refine XS.go (s_lconst (v := 0) rfl rfl) ?_
  refine XS.go (XS.lcl (L3 := [some (.ref 1262), some (.int x1), some (.int y0), some (.long (0 : Int64)), none, none]) (s_lstoren rfl rfl (Nat.le_of_ble_eq_true rfl)) rfl) ?_
  refine XS.go (s_aloadn rfl rfl rfl) ?_
  refine XS.go (s_getr rfl xf12_22 (LY.lt L0 (by decide)) (LY.k1262 L0) (by decide) rfl (LY.r1262_9 L0)) ?_
  refine XS.go (s_aloadn rfl rfl rfl) ?_
  refine XS.go (s_getie rfl xf12_224 (LY.lt L0 (by decide)) (LY.k1262 L0) (by decide) rfl rfl) ?_
  replace hf := xi_none hf
  obtain ⟨qk20, hf⟩ := hf
  refine XS.go (s_ialde rfl (LY.lt L0 (by decide)) (LY.k1267 L0) (inLit (LY.n1267 L0) qk20.1 qk20.2 (by decide)) rfl) ?_
  refine XS.go (s_iloadn rfl rfl rfl) ?_
  refine r_if_eq (tgt := 129) rfl rfl (fun qc21 => ?_) (fun qc21 => ?_)
  · replace hf := xi_pos hf qc21
    refine XS.go (s_iconst (v := 0) rfl rfl) ?_
    exact XR.forget (L2 := [some (.ref 1262), some (.int x1), some (.int y0), some (.long (0 : Int64)), none, none]) ⟨rfl, ⟨rfl, ⟨rfl, ⟨rfl, trivial⟩⟩⟩⟩ (kb_m_defaults_130 L0 hf)
  · replace hf := xi_neg hf qc21
    refine XS.go (s_iconst (v := 1) rfl rfl) ?_
    refine XS.go (s_goto (tgt := 130) rfl rfl) ?_
    exact XR.forget (L2 := [some (.ref 1262), some (.int x1), some (.int y0), some (.long (0 : Int64)), none, none]) ⟨rfl, ⟨rfl, ⟨rfl, ⟨rfl, trivial⟩⟩⟩⟩ (kb_m_defaults_130 L0 hf)
def b_m_defaults_56 (h : XH) : Option (Unit × XH) := (Option.bind (f_m_flaw 7 h) fun r22 => (some ((), r22.2)))
set_option maxRecDepth 20000 in
theorem kb_m_defaults_56 {l : Launch} {G : XG} {d : Nat} {h : XH} {r : Unit × XH} (L0 : LY h) (hf : b_m_defaults_56 h = some r) : XR l G xEX12_defaults (d + 2) (56, [some (.ref 1262), none, none, none, none, none], [], h) (fun C => ∃ v, xRet xEX12_defaults C v ∧ (C.2.2.2 = r.2 ∧ v = none) ∧ LY r.2) := by
  unfold b_m_defaults_56 at hf
  refine XS.go (s_aloadn rfl rfl rfl) ?_
  refine XS.go (s_bipush (v := 7) rfl rfl) ?_
  replace hf := xb_some hf
  obtain ⟨r22, e23, hf⟩ := hf
  refine r_callv rfl xvX12_flaw xm12_230 (kf_m_flaw (d := d) L0 e23) (LY.lt L0 (by decide)) (LY.k1262 L0) (by decide) rfl rfl (dl0 (by decide)) (by decide) (Nat.le_of_ble_eq_true rfl) ?_
  rintro _ _ ⟨⟨rfl, rfl⟩, L24⟩
  cases hf
  exact XR.retv rfl rfl (fun hret => ⟨_, hret, ⟨rfl, rfl⟩, L24⟩)
def f_m_defaults (a0 : Int32) (h : XH) : Option (Unit × XH) := (if (hi h 1262 14) = 0 then (if 0 ≤ a0 ∧ a0 < nI 256 then (Option.bind (f_m_isSign 61 (hsj h 1291 (Int32.toNatClampNeg a0) (0 : Int64))) fun r27 => (if ¬ r27.1 = 0 then (if 0 ≤ a0 ∧ a0 < nI 256 then (if ¬ (hi r27.2 1286 (Int32.toNatClampNeg a0)) = 0 then (b_m_defaults_56 r27.2) else (if (hi r27.2 1287 (Int32.toNatClampNeg a0)) = 9 then (b_m_defaults_56 r27.2) else (if ¬ (hi r27.2 1287 (Int32.toNatClampNeg a0)) = 10 then (Option.bind (f_m_take r27.2) fun r35 => (if 0 ≤ (hi r35.2 1262 13) ∧ (hi r35.2 1262 13) < nI 4001 then (if (hi r35.2 1266 (Int32.toNatClampNeg (hi r35.2 1262 13))) = 3 then (if 0 ≤ (hi r35.2 1267 (Int32.toNatClampNeg (hi r35.2 1262 13))) ∧ (hi r35.2 1267 (Int32.toNatClampNeg (hi r35.2 1262 13))) < nI 4000 then (if ¬ (hi r35.2 1264 (Int32.toNatClampNeg (hi r35.2 1267 (Int32.toNatClampNeg (hi r35.2 1262 13))))) = 45 then (b_m_defaults_109 a0 0 r35.2) else (b_m_defaults_109 a0 1 r35.2)) else none) else (Option.bind (f_m_misfit r35.2) fun r42 => (some ((), r42.2)))) else none)) else (b_m_defaults_56 r27.2)))) else none) else (some ((), r27.2)))) else none) else (some ((), h)))
set_option maxRecDepth 20000 in
theorem kf_m_defaults {l : Launch} {G : XG} {d : Nat} {a0 : Int32} {h : XH} {r : Unit × XH} (L0 : LY h) (hf : f_m_defaults a0 h = some r) : XC l G xEX12_defaults (d + 2) [.ref 1262, .int a0] h (fun v h2 => (h2 = r.2 ∧ v = none) ∧ LY r.2) := by
  refine XC.virt xvX12_defaults (Nat.le_of_ble_eq_true rfl) ?_
  unfold f_m_defaults at hf
  refine XR.norm (L3 := [some (.ref 1262), some (.int a0), none, none, none, none]) rfl ?_
  refine XS.go (s_aloadn rfl rfl rfl) ?_
  refine XS.go (s_getie rfl xf12_221 (LY.lt L0 (by decide)) (LY.k1262 L0) (by decide) rfl rfl) ?_
  refine r_if_eq (tgt := 8) rfl rfl (fun qc25 => ?_) (fun qc25 => ?_)
  · replace hf := xi_pos hf qc25
    refine XS.go (s_aloadn rfl rfl rfl) ?_
    refine XS.go (s_getr rfl xf12_94 (LY.lt L0 (by decide)) (LY.k1262 L0) (by decide) rfl (LY.r1262_40 L0)) ?_
    refine XS.go (s_iloadn rfl rfl rfl) ?_
    refine XS.go (s_lconst (v := 0) rfl rfl) ?_
    replace hf := xi_none hf
    obtain ⟨qk26, hf⟩ := hf
    refine XS.go (s_last rfl (LY.lt L0 (by decide)) (LY.k1291 L0) (inLit (LY.n1291 L0) qk26.1 qk26.2 (by decide))) ?_
    refine XS.go (s_aloadn rfl rfl rfl) ?_
    refine XS.go (s_bipush (v := 61) rfl rfl) ?_
    replace hf := xb_some hf
    obtain ⟨r27, e28, hf⟩ := hf
    refine r_callv rfl xvX12_isSign xm12_234 (kf_m_isSign (d := d) (by simp only [LY_si, LY_sj]; exact L0) e28) (LY.lt (by simp only [LY_si, LY_sj]; exact L0) (by decide)) (LY.k1262 (by simp only [LY_si, LY_sj]; exact L0)) (by decide) rfl rfl (dl0 (by decide)) (by decide) (Nat.le_of_ble_eq_true rfl) ?_
    rintro _ _ ⟨⟨rfl, rfl⟩, L29⟩
    refine r_if_ne (tgt := 25) rfl rfl (fun qc30 => ?_) (fun qc30 => ?_)
    · replace hf := xi_pos hf qc30
      refine XS.go (s_aloadn rfl rfl rfl) ?_
      refine XS.go (s_getr rfl xf12_79 (LY.lt L29 (by decide)) (LY.k1262 L29) (by decide) rfl (LY.r1262_35 L29)) ?_
      refine XS.go (s_iloadn rfl rfl rfl) ?_
      replace hf := xi_none hf
      obtain ⟨qk31, hf⟩ := hf
      refine XS.go (s_ialde rfl (LY.lt L29 (by decide)) (LY.k1286 L29) (inLit (LY.n1286 L29) qk31.1 qk31.2 (by decide)) rfl) ?_
      refine r_if_ne (tgt := 56) rfl rfl (fun qc32 => ?_) (fun qc32 => ?_)
      · replace hf := xi_pos hf qc32
        exact XR.forget (L2 := [some (.ref 1262), none, none, none, none, none]) ⟨rfl, trivial⟩ (kb_m_defaults_56 L29 hf)
      · replace hf := xi_neg hf qc32
        refine XS.go (s_aloadn rfl rfl rfl) ?_
        refine XS.go (s_getr rfl xf12_82 (LY.lt L29 (by decide)) (LY.k1262 L29) (by decide) rfl (LY.r1262_36 L29)) ?_
        refine XS.go (s_iloadn rfl rfl rfl) ?_
        refine XS.go (s_ialde rfl (LY.lt L29 (by decide)) (LY.k1287 L29) (inLit (LY.n1287 L29) qk31.1 qk31.2 (by decide)) rfl) ?_
        refine XS.go (s_bipush (v := 9) rfl rfl) ?_
        refine r_icmp_eq (tgt := 56) rfl rfl (fun qc33 => ?_) (fun qc33 => ?_)
        · replace hf := xi_pos hf qc33
          exact XR.forget (L2 := [some (.ref 1262), none, none, none, none, none]) ⟨rfl, trivial⟩ (kb_m_defaults_56 L29 hf)
        · replace hf := xi_neg hf qc33
          refine XS.go (s_aloadn rfl rfl rfl) ?_
          refine XS.go (s_getr rfl xf12_82 (LY.lt L29 (by decide)) (LY.k1262 L29) (by decide) rfl (LY.r1262_36 L29)) ?_
          refine XS.go (s_iloadn rfl rfl rfl) ?_
          refine XS.go (s_ialde rfl (LY.lt L29 (by decide)) (LY.k1287 L29) (inLit (LY.n1287 L29) qk31.1 qk31.2 (by decide)) rfl) ?_
          refine XS.go (s_bipush (v := 10) rfl rfl) ?_
          refine r_icmp_ne (tgt := 63) rfl rfl (fun qc34 => ?_) (fun qc34 => ?_)
          · replace hf := xi_pos hf qc34
            refine XS.go (s_aloadn rfl rfl rfl) ?_
            replace hf := xb_some hf
            obtain ⟨r35, e36, hf⟩ := hf
            refine r_callv rfl xvX12_take xm12_240 (kf_m_take (d := d) L29 e36) (LY.lt L29 (by decide)) (LY.k1262 L29) (by decide) rfl rfl (dl0 (by decide)) (by decide) (Nat.le_of_ble_eq_true rfl) ?_
            rintro _ _ ⟨⟨rfl, rfl⟩, L37⟩
            refine XS.go (s_aloadn rfl rfl rfl) ?_
            refine XS.go (s_getr rfl xf12_19 (LY.lt L37 (by decide)) (LY.k1262 L37) (by decide) rfl (LY.r1262_8 L37)) ?_
            refine XS.go (s_aloadn rfl rfl rfl) ?_
            refine XS.go (s_getie rfl xf12_224 (LY.lt L37 (by decide)) (LY.k1262 L37) (by decide) rfl rfl) ?_
            replace hf := xi_none hf
            obtain ⟨qk38, hf⟩ := hf
            refine XS.go (s_ialde rfl (LY.lt L37 (by decide)) (LY.k1266 L37) (inLit (LY.n1266 L37) qk38.1 qk38.2 (by decide)) rfl) ?_
            refine XS.go (s_iconst (v := 3) rfl rfl) ?_
            refine r_icmp_eq (tgt := 85) rfl rfl (fun qc39 => ?_) (fun qc39 => ?_)
            · replace hf := xi_pos hf qc39
              refine XS.go (s_aloadn rfl rfl rfl) ?_
              refine XS.go (s_getr rfl xf12_13 (LY.lt L37 (by decide)) (LY.k1262 L37) (by decide) rfl (LY.r1262_3 L37)) ?_
              refine XS.go (s_aloadn rfl rfl rfl) ?_
              refine XS.go (s_getr rfl xf12_22 (LY.lt L37 (by decide)) (LY.k1262 L37) (by decide) rfl (LY.r1262_9 L37)) ?_
              refine XS.go (s_aloadn rfl rfl rfl) ?_
              refine XS.go (s_getie rfl xf12_224 (LY.lt L37 (by decide)) (LY.k1262 L37) (by decide) rfl rfl) ?_
              refine XS.go (s_ialde rfl (LY.lt L37 (by decide)) (LY.k1267 L37) (inLit (LY.n1267 L37) qk38.1 qk38.2 (by decide)) rfl) ?_
              replace hf := xi_none hf
              obtain ⟨qk40, hf⟩ := hf
              refine XS.go (s_ialde rfl (LY.lt L37 (by decide)) (LY.k1264 L37) (inLit (LY.n1264 L37) qk40.1 qk40.2 (by decide)) rfl) ?_
              refine XS.go (s_bipush (v := 45) rfl rfl) ?_
              refine r_icmp_ne (tgt := 108) rfl rfl (fun qc41 => ?_) (fun qc41 => ?_)
              · replace hf := xi_pos hf qc41
                refine XS.go (s_iconst (v := 0) rfl rfl) ?_
                exact XR.forget (L2 := [some (.ref 1262), some (.int a0), none, none, none, none]) ⟨rfl, ⟨rfl, trivial⟩⟩ (kb_m_defaults_109 L37 hf)
              · replace hf := xi_neg hf qc41
                refine XS.go (s_iconst (v := 1) rfl rfl) ?_
                refine XS.go (s_goto (tgt := 109) rfl rfl) ?_
                exact XR.forget (L2 := [some (.ref 1262), some (.int a0), none, none, none, none]) ⟨rfl, ⟨rfl, trivial⟩⟩ (kb_m_defaults_109 L37 hf)
            · replace hf := xi_neg hf qc39
              refine XS.go (s_aloadn rfl rfl rfl) ?_
              replace hf := xb_some hf
              obtain ⟨r42, e43, hf⟩ := hf
              refine r_callv rfl xvX12_misfit xm12_237 (kf_m_misfit (d := d) L37 e43) (LY.lt L37 (by decide)) (LY.k1262 L37) (by decide) rfl rfl (dl (by decide)) (by decide) (Nat.le_of_ble_eq_true rfl) ?_
              rintro _ _ ⟨⟨rfl, rfl⟩, L44⟩
              cases hf
              exact XR.retv rfl rfl (fun hret => ⟨_, hret, ⟨rfl, rfl⟩, L44⟩)
          · replace hf := xi_neg hf qc34
            exact XR.forget (L2 := [some (.ref 1262), none, none, none, none, none]) ⟨rfl, trivial⟩ (kb_m_defaults_56 L29 hf)
    · replace hf := xi_neg hf qc30
      cases hf
      exact XR.retv rfl rfl (fun hret => ⟨_, hret, ⟨rfl, rfl⟩, L29⟩)
  · replace hf := xi_neg hf qc25
    cases hf
    exact XR.retv rfl rfl (fun hret => ⟨_, hret, ⟨rfl, rfl⟩, L0⟩)
def f_m_needed (a0 : Int32) (h : XH) : Option (Unit × XH) := (if (hi h 1262 14) = 0 then (if 0 ≤ a0 ∧ a0 < nI 256 then (Option.bind (f_m_isSign 40 (hsi h 1290 (Int32.toNatClampNeg a0) 0)) fun r3 => (if ¬ r3.1 = 0 then (if 0 ≤ a0 ∧ a0 < nI 256 then (if ¬ (hi r3.2 1286 (Int32.toNatClampNeg a0)) = 0 then (Option.bind (f_m_take r3.2) fun r9 => (Option.bind (f_m_isWord 15 r9.2) fun r12 => (if ¬ r12.1 = 0 then (if 0 ≤ a0 ∧ a0 < nI 256 then (Option.bind (f_m_take (hsi r12.2 1290 (Int32.toNatClampNeg a0) 1)) fun r17 => (Option.bind (f_m_sign 41 r17.2) fun r20 => (some ((), r20.2)))) else none) else (Option.bind (f_m_misfit r12.2) fun r23 => (some ((), r23.2)))))) else (Option.bind (f_m_flaw 7 r3.2) fun r26 => (some ((), r26.2)))) else none) else (some ((), r3.2)))) else none) else (some ((), h)))
set_option maxRecDepth 20000 in
theorem kf_m_needed {l : Launch} {G : XG} {d : Nat} {a0 : Int32} {h : XH} {r : Unit × XH} (L0 : LY h) (hf : f_m_needed a0 h = some r) : XC l G xEX12_needed (d + 3) [.ref 1262, .int a0] h (fun v h2 => (h2 = r.2 ∧ v = none) ∧ LY r.2) := by
  refine XC.virt xvX12_needed (Nat.le_of_ble_eq_true rfl) ?_
  unfold f_m_needed at hf
  refine XR.norm (L3 := [some (.ref 1262), some (.int a0)]) rfl ?_
  refine XS.go (s_aloadn rfl rfl rfl) ?_
  refine XS.go (s_getie rfl xf12_221 (LY.lt L0 (by decide)) (LY.k1262 L0) (by decide) rfl rfl) ?_
  refine r_if_eq (tgt := 8) rfl rfl (fun qc1 => ?_) (fun qc1 => ?_)
  · replace hf := xi_pos hf qc1
    refine XS.go (s_aloadn rfl rfl rfl) ?_
    refine XS.go (s_getr rfl xf12_91 (LY.lt L0 (by decide)) (LY.k1262 L0) (by decide) rfl (LY.r1262_39 L0)) ?_
    refine XS.go (s_iloadn rfl rfl rfl) ?_
    refine XS.go (s_iconst (v := 0) rfl rfl) ?_
    replace hf := xi_none hf
    obtain ⟨qk2, hf⟩ := hf
    refine XS.go (s_iast rfl (LY.lt L0 (by decide)) (LY.k1290 L0) (inLit (LY.n1290 L0) qk2.1 qk2.2 (by decide))) ?_
    refine XS.go (s_aloadn rfl rfl rfl) ?_
    refine XS.go (s_bipush (v := 40) rfl rfl) ?_
    replace hf := xb_some hf
    obtain ⟨r3, e4, hf⟩ := hf
    refine r_callv rfl xvX12_isSign xm12_234 (kf_m_isSign (d := d) (by simp only [LY_si, LY_sj]; exact L0) e4) (LY.lt (by simp only [LY_si, LY_sj]; exact L0) (by decide)) (LY.k1262 (by simp only [LY_si, LY_sj]; exact L0)) (by decide) rfl rfl (dl0 (by decide)) (by decide) (Nat.le_of_ble_eq_true rfl) ?_
    rintro _ _ ⟨⟨rfl, rfl⟩, L5⟩
    refine r_if_ne (tgt := 25) rfl rfl (fun qc6 => ?_) (fun qc6 => ?_)
    · replace hf := xi_pos hf qc6
      refine XS.go (s_aloadn rfl rfl rfl) ?_
      refine XS.go (s_getr rfl xf12_79 (LY.lt L5 (by decide)) (LY.k1262 L5) (by decide) rfl (LY.r1262_35 L5)) ?_
      refine XS.go (s_iloadn rfl rfl rfl) ?_
      replace hf := xi_none hf
      obtain ⟨qk7, hf⟩ := hf
      refine XS.go (s_ialde rfl (LY.lt L5 (by decide)) (LY.k1286 L5) (inLit (LY.n1286 L5) qk7.1 qk7.2 (by decide)) rfl) ?_
      refine r_if_ne (tgt := 41) rfl rfl (fun qc8 => ?_) (fun qc8 => ?_)
      · replace hf := xi_pos hf qc8
        refine XS.go (s_aloadn rfl rfl rfl) ?_
        replace hf := xb_some hf
        obtain ⟨r9, e10, hf⟩ := hf
        refine r_callv rfl xvX12_take xm12_240 (kf_m_take (d := d) L5 e10) (LY.lt L5 (by decide)) (LY.k1262 L5) (by decide) rfl rfl (dl0 (by decide)) (by decide) (Nat.le_of_ble_eq_true rfl) ?_
        rintro _ _ ⟨⟨rfl, rfl⟩, L11⟩
        refine XS.go (s_aloadn rfl rfl rfl) ?_
        refine XS.go (s_bipush (v := 15) rfl rfl) ?_
        replace hf := xb_some hf
        obtain ⟨r12, e13, hf⟩ := hf
        refine r_callv rfl xvX12_isWord xm12_269 (kf_m_isWord (d := d) L11 e13) (LY.lt L11 (by decide)) (LY.k1262 L11) (by decide) rfl rfl (dl0 (by decide)) (by decide) (Nat.le_of_ble_eq_true rfl) ?_
        rintro _ _ ⟨⟨rfl, rfl⟩, L14⟩
        refine r_if_ne (tgt := 59) rfl rfl (fun qc15 => ?_) (fun qc15 => ?_)
        · replace hf := xi_pos hf qc15
          refine XS.go (s_aloadn rfl rfl rfl) ?_
          refine XS.go (s_getr rfl xf12_91 (LY.lt L14 (by decide)) (LY.k1262 L14) (by decide) rfl (LY.r1262_39 L14)) ?_
          refine XS.go (s_iloadn rfl rfl rfl) ?_
          refine XS.go (s_iconst (v := 1) rfl rfl) ?_
          replace hf := xi_none hf
          obtain ⟨qk16, hf⟩ := hf
          refine XS.go (s_iast rfl (LY.lt L14 (by decide)) (LY.k1290 L14) (inLit (LY.n1290 L14) qk16.1 qk16.2 (by decide))) ?_
          refine XS.go (s_aloadn rfl rfl rfl) ?_
          replace hf := xb_some hf
          obtain ⟨r17, e18, hf⟩ := hf
          refine r_callv rfl xvX12_take xm12_240 (kf_m_take (d := d) (by simp only [LY_si, LY_sj]; exact L14) e18) (LY.lt (by simp only [LY_si, LY_sj]; exact L14) (by decide)) (LY.k1262 (by simp only [LY_si, LY_sj]; exact L14)) (by decide) rfl rfl (dl0 (by decide)) (by decide) (Nat.le_of_ble_eq_true rfl) ?_
          rintro _ _ ⟨⟨rfl, rfl⟩, L19⟩
          refine XS.go (s_aloadn rfl rfl rfl) ?_
          refine XS.go (s_bipush (v := 41) rfl rfl) ?_
          replace hf := xb_some hf
          obtain ⟨r20, e21, hf⟩ := hf
          refine r_callv rfl xvX12_sign xm12_282 (kf_m_sign (d := d) L19 e21) (LY.lt L19 (by decide)) (LY.k1262 L19) (by decide) rfl rfl (dl (by decide)) (by decide) (Nat.le_of_ble_eq_true rfl) ?_
          rintro _ _ ⟨⟨rfl, rfl⟩, L22⟩
          cases hf
          exact XR.retv rfl rfl (fun hret => ⟨_, hret, ⟨rfl, rfl⟩, L22⟩)
        · replace hf := xi_neg hf qc15
          refine XS.go (s_aloadn rfl rfl rfl) ?_
          replace hf := xb_some hf
          obtain ⟨r23, e24, hf⟩ := hf
          refine r_callv rfl xvX12_misfit xm12_237 (kf_m_misfit (d := d) L14 e24) (LY.lt L14 (by decide)) (LY.k1262 L14) (by decide) rfl rfl (dl (by decide)) (by decide) (Nat.le_of_ble_eq_true rfl) ?_
          rintro _ _ ⟨⟨rfl, rfl⟩, L25⟩
          cases hf
          exact XR.retv rfl rfl (fun hret => ⟨_, hret, ⟨rfl, rfl⟩, L25⟩)
      · replace hf := xi_neg hf qc8
        refine XS.go (s_aloadn rfl rfl rfl) ?_
        refine XS.go (s_bipush (v := 7) rfl rfl) ?_
        replace hf := xb_some hf
        obtain ⟨r26, e27, hf⟩ := hf
        refine r_callv rfl xvX12_flaw xm12_230 (kf_m_flaw (d := d) L5 e27) (LY.lt L5 (by decide)) (LY.k1262 L5) (by decide) rfl rfl (dl0 (by decide)) (by decide) (Nat.le_of_ble_eq_true rfl) ?_
        rintro _ _ ⟨⟨rfl, rfl⟩, L28⟩
        cases hf
        exact XR.retv rfl rfl (fun hret => ⟨_, hret, ⟨rfl, rfl⟩, L28⟩)
    · replace hf := xi_neg hf qc6
      cases hf
      exact XR.retv rfl rfl (fun hret => ⟨_, hret, ⟨rfl, rfl⟩, L5⟩)
  · replace hf := xi_neg hf qc1
    cases hf
    exact XR.retv rfl rfl (fun hret => ⟨_, hret, ⟨rfl, rfl⟩, L0⟩)
def b_m_tableType_148 (x2 : Int32) (h : XH) : Option (Unit × XH) := (Option.bind (f_m_take h) fun r1 => (if x2 = 0 then (some ((), r1.2)) else (Option.bind (f_m_sign 93 r1.2) fun r5 => (some ((), r5.2)))))
set_option maxRecDepth 20000 in
theorem kb_m_tableType_148 {l : Launch} {G : XG} {d : Nat} {x2 : Int32} {h : XH} {r : Unit × XH} (L0 : LY h) (hf : b_m_tableType_148 x2 h = some r) : XR l G xEX12_tableType (d + 3) (148, [some (.ref 1262), none, some (.int x2), none], [], h) (fun C => ∃ v, xRet xEX12_tableType C v ∧ (C.2.2.2 = r.2 ∧ v = none) ∧ LY r.2) := by
  unfold b_m_tableType_148 at hf
  refine XS.go (s_aloadn rfl rfl rfl) ?_
  replace hf := xb_some hf
  obtain ⟨r1, e2, hf⟩ := hf
  refine r_callv rfl xvX12_take xm12_240 (kf_m_take (d := d) L0 e2) (LY.lt L0 (by decide)) (LY.k1262 L0) (by decide) rfl rfl (dl0 (by decide)) (by decide) (Nat.le_of_ble_eq_true rfl) ?_
  rintro _ _ ⟨⟨rfl, rfl⟩, L3⟩
  refine XS.go (s_iloadn rfl rfl rfl) ?_
  refine r_if_eq (tgt := 162) rfl rfl (fun qc4 => ?_) (fun qc4 => ?_)
  · replace hf := xi_pos hf qc4
    cases hf
    exact XR.retv rfl rfl (fun hret => ⟨_, hret, ⟨rfl, rfl⟩, L3⟩)
  · replace hf := xi_neg hf qc4
    refine XS.go (s_aloadn rfl rfl rfl) ?_
    refine XS.go (s_bipush (v := 93) rfl rfl) ?_
    replace hf := xb_some hf
    obtain ⟨r5, e6, hf⟩ := hf
    refine r_callv rfl xvX12_sign xm12_282 (kf_m_sign (d := d) L3 e6) (LY.lt L3 (by decide)) (LY.k1262 L3) (by decide) rfl rfl (dl (by decide)) (by decide) (Nat.le_of_ble_eq_true rfl) ?_
    rintro _ _ ⟨⟨rfl, rfl⟩, L7⟩
    cases hf
    exact XR.retv rfl rfl (fun hret => ⟨_, hret, ⟨rfl, rfl⟩, L7⟩)
def b_m_tableType_136 (x1 : Int32) (x2 : Int32) (x3 : Int32) (y1 : Int32) (y2 : Int32) (h : XH) : Option (Unit × XH) := (if 0 ≤ y1 ∧ y1 < nI 256 then (if x2 = 0 then (b_m_tableType_148 x2 (hsi h 1286 (Int32.toNatClampNeg y1) y2)) else (if 0 ≤ x1 ∧ x1 < nI 256 then (b_m_tableType_148 x2 (hsi (hsi h 1286 (Int32.toNatClampNeg y1) y2) 1288 (Int32.toNatClampNeg x1) x3)) else none)) else none)
set_option maxRecDepth 20000 in
theorem kb_m_tableType_136 {l : Launch} {G : XG} {d : Nat} {x1 : Int32} {x2 : Int32} {x3 : Int32} {y1 : Int32} {y2 : Int32} {h : XH} {r : Unit × XH} (L0 : LY h) (hf : b_m_tableType_136 x1 x2 x3 y1 y2 h = some r) : XR l G xEX12_tableType (d + 3) (136, [some (.ref 1262), some (.int x1), some (.int x2), some (.int x3)], [(.int y2), (.int y1), (.ref 1286)], h) (fun C => ∃ v, xRet xEX12_tableType C v ∧ (C.2.2.2 = r.2 ∧ v = none) ∧ LY r.2) := by
  unfold b_m_tableType_136 at hf
  replace hf := xi_none hf
  obtain ⟨qk8, hf⟩ := hf
  refine XS.go (s_iast rfl (LY.lt L0 (by decide)) (LY.k1286 L0) (inLit (LY.n1286 L0) qk8.1 qk8.2 (by decide))) ?_
  refine XS.go (s_iloadn rfl rfl rfl) ?_
  refine r_if_eq (tgt := 148) rfl rfl (fun qc9 => ?_) (fun qc9 => ?_)
  · replace hf := xi_pos hf qc9
    exact XR.forget (L2 := [some (.ref 1262), none, some (.int x2), none]) ⟨rfl, ⟨rfl, trivial⟩⟩ (kb_m_tableType_148 (by simp only [LY_si, LY_sj]; exact L0) hf)
  · replace hf := xi_neg hf qc9
    refine XS.go (s_aloadn rfl rfl rfl) ?_
    refine XS.go (s_getr rfl xf12_85 (LY.lt (by simp only [LY_si, LY_sj]; exact L0) (by decide)) (LY.k1262 (by simp only [LY_si, LY_sj]; exact L0)) (by decide) rfl (LY.r1262_37 (by simp only [LY_si, LY_sj]; exact L0))) ?_
    refine XS.go (s_iloadn rfl rfl rfl) ?_
    refine XS.go (s_iloadn rfl rfl rfl) ?_
    replace hf := xi_none hf
    obtain ⟨qk10, hf⟩ := hf
    refine XS.go (s_iast rfl (LY.lt (by simp only [LY_si, LY_sj]; exact L0) (by decide)) (LY.k1288 (by simp only [LY_si, LY_sj]; exact L0)) (inLit (LY.n1288 (by simp only [LY_si, LY_sj]; exact L0)) qk10.1 qk10.2 (by decide))) ?_
    exact XR.forget (L2 := [some (.ref 1262), none, some (.int x2), none]) ⟨rfl, ⟨rfl, trivial⟩⟩ (kb_m_tableType_148 (by simp only [LY_si, LY_sj]; exact L0) hf)
def b_m_tableType_122 (x1 : Int32) (x2 : Int32) (x3 : Int32) (h : XH) : Option (Unit × XH) := (if x2 = 0 then (b_m_tableType_136 x1 x2 x3 x1 x3 h) else (b_m_tableType_136 x1 x2 x3 x1 5 h))
set_option maxRecDepth 20000 in
theorem kb_m_tableType_122 {l : Launch} {G : XG} {d : Nat} {x1 : Int32} {x2 : Int32} {x3 : Int32} {h : XH} {r : Unit × XH} (L0 : LY h) (hf : b_m_tableType_122 x1 x2 x3 h = some r) : XR l G xEX12_tableType (d + 3) (122, [some (.ref 1262), some (.int x1), some (.int x2), some (.int x3)], [], h) (fun C => ∃ v, xRet xEX12_tableType C v ∧ (C.2.2.2 = r.2 ∧ v = none) ∧ LY r.2) := by
  unfold b_m_tableType_122 at hf
  refine XS.go (s_aloadn rfl rfl rfl) ?_
  refine XS.go (s_getr rfl xf12_79 (LY.lt L0 (by decide)) (LY.k1262 L0) (by decide) rfl (LY.r1262_35 L0)) ?_
  refine XS.go (s_iloadn rfl rfl rfl) ?_
  refine XS.go (s_iloadn rfl rfl rfl) ?_
  refine r_if_eq (tgt := 135) rfl rfl (fun qc11 => ?_) (fun qc11 => ?_)
  · replace hf := xi_pos hf qc11
    refine XS.go (s_iloadn rfl rfl rfl) ?_
    exact XR.forget (L2 := [some (.ref 1262), some (.int x1), some (.int x2), some (.int x3)]) ⟨rfl, ⟨rfl, ⟨rfl, ⟨rfl, trivial⟩⟩⟩⟩ (kb_m_tableType_136 L0 hf)
  · replace hf := xi_neg hf qc11
    refine XS.go (s_iconst (v := 5) rfl rfl) ?_
    refine XS.go (s_goto (tgt := 136) rfl rfl) ?_
    exact XR.forget (L2 := [some (.ref 1262), some (.int x1), some (.int x2), some (.int x3)]) ⟨rfl, ⟨rfl, ⟨rfl, ⟨rfl, trivial⟩⟩⟩⟩ (kb_m_tableType_136 L0 hf)
def b_m_tableType_118 (x1 : Int32) (x2 : Int32) (x3 : Int32) (y1 : Int32) (y2 : Int32) (h : XH) : Option (Unit × XH) := (Option.bind (f_m_ask y1 y2 x1 h) fun r12 => (b_m_tableType_122 x1 x2 x3 r12.2))
set_option maxRecDepth 20000 in
theorem kb_m_tableType_118 {l : Launch} {G : XG} {d : Nat} {x1 : Int32} {x2 : Int32} {x3 : Int32} {y1 : Int32} {y2 : Int32} {h : XH} {r : Unit × XH} (L0 : LY h) (hf : b_m_tableType_118 x1 x2 x3 y1 y2 h = some r) : XR l G xEX12_tableType (d + 3) (118, [some (.ref 1262), some (.int x1), some (.int x2), some (.int x3)], [(.int y2), (.int y1), (.ref 1262)], h) (fun C => ∃ v, xRet xEX12_tableType C v ∧ (C.2.2.2 = r.2 ∧ v = none) ∧ LY r.2) := by
  unfold b_m_tableType_118 at hf
  refine XS.go (s_iloadn rfl rfl rfl) ?_
  replace hf := xb_some hf
  obtain ⟨r12, e13, hf⟩ := hf
  refine r_callv rfl xvX12_ask xm12_278 (kf_m_ask (d := d) L0 e13) (LY.lt L0 (by decide)) (LY.k1262 L0) (by decide) rfl rfl (dl0 (by decide)) (by decide) (Nat.le_of_ble_eq_true rfl) ?_
  rintro _ _ ⟨⟨rfl, rfl⟩, L14⟩
  exact XR.forget (L2 := [some (.ref 1262), some (.int x1), some (.int x2), some (.int x3)]) ⟨rfl, ⟨rfl, ⟨rfl, ⟨rfl, trivial⟩⟩⟩⟩ (kb_m_tableType_122 L14 hf)
def b_m_tableType_99 (x1 : Int32) (x2 : Int32) (x3 : Int32) (h : XH) : Option (Unit × XH) := (if ¬ x3 = 3 then (b_m_tableType_122 x1 x2 x3 h) else (if x2 = 0 then (b_m_tableType_118 x1 x2 x3 (hi h 1262 13) 0 h) else (b_m_tableType_118 x1 x2 x3 (hi h 1262 13) 1 h)))
set_option maxRecDepth 20000 in
theorem kb_m_tableType_99 {l : Launch} {G : XG} {d : Nat} {x1 : Int32} {x2 : Int32} {x3 : Int32} {h : XH} {r : Unit × XH} (L0 : LY h) (hf : b_m_tableType_99 x1 x2 x3 h = some r) : XR l G xEX12_tableType (d + 3) (99, [some (.ref 1262), some (.int x1), some (.int x2), some (.int x3)], [], h) (fun C => ∃ v, xRet xEX12_tableType C v ∧ (C.2.2.2 = r.2 ∧ v = none) ∧ LY r.2) := by
  unfold b_m_tableType_99 at hf
  refine XS.go (s_iloadn rfl rfl rfl) ?_
  refine XS.go (s_iconst (v := 3) rfl rfl) ?_
  refine r_icmp_ne (tgt := 122) rfl rfl (fun qc15 => ?_) (fun qc15 => ?_)
  · replace hf := xi_pos hf qc15
    exact XR.forget (L2 := [some (.ref 1262), some (.int x1), some (.int x2), some (.int x3)]) ⟨rfl, ⟨rfl, ⟨rfl, ⟨rfl, trivial⟩⟩⟩⟩ (kb_m_tableType_122 L0 hf)
  · replace hf := xi_neg hf qc15
    refine XS.go (s_aloadn rfl rfl rfl) ?_
    refine XS.go (s_aloadn rfl rfl rfl) ?_
    refine XS.go (s_getie rfl xf12_224 (LY.lt L0 (by decide)) (LY.k1262 L0) (by decide) rfl rfl) ?_
    refine XS.go (s_iloadn rfl rfl rfl) ?_
    refine r_if_eq (tgt := 117) rfl rfl (fun qc16 => ?_) (fun qc16 => ?_)
    · replace hf := xi_pos hf qc16
      refine XS.go (s_iconst (v := 0) rfl rfl) ?_
      exact XR.forget (L2 := [some (.ref 1262), some (.int x1), some (.int x2), some (.int x3)]) ⟨rfl, ⟨rfl, ⟨rfl, ⟨rfl, trivial⟩⟩⟩⟩ (kb_m_tableType_118 L0 hf)
    · replace hf := xi_neg hf qc16
      refine XS.go (s_iconst (v := 1) rfl rfl) ?_
      refine XS.go (s_goto (tgt := 118) rfl rfl) ?_
      exact XR.forget (L2 := [some (.ref 1262), some (.int x1), some (.int x2), some (.int x3)]) ⟨rfl, ⟨rfl, ⟨rfl, ⟨rfl, trivial⟩⟩⟩⟩ (kb_m_tableType_118 L0 hf)
def b_m_tableType_80 (x1 : Int32) (x2 : Int32) (x3 : Int32) (h : XH) : Option (Unit × XH) := (if ¬ x3 = 0 then (b_m_tableType_99 x1 x2 x3 h) else (if 0 ≤ (hi h 1262 13) ∧ (hi h 1262 13) < nI 4001 then (if 0 ≤ x1 ∧ x1 < nI 256 then (b_m_tableType_99 x1 x2 x3 (hsi h 1287 (Int32.toNatClampNeg x1) (hi h 1269 (Int32.toNatClampNeg (hi h 1262 13))))) else none) else none))
set_option maxRecDepth 20000 in
theorem kb_m_tableType_80 {l : Launch} {G : XG} {d : Nat} {x1 : Int32} {x2 : Int32} {x3 : Int32} {h : XH} {r : Unit × XH} (L0 : LY h) (hf : b_m_tableType_80 x1 x2 x3 h = some r) : XR l G xEX12_tableType (d + 3) (80, [some (.ref 1262), some (.int x1), some (.int x2), some (.int x3)], [], h) (fun C => ∃ v, xRet xEX12_tableType C v ∧ (C.2.2.2 = r.2 ∧ v = none) ∧ LY r.2) := by
  unfold b_m_tableType_80 at hf
  refine XS.go (s_iloadn rfl rfl rfl) ?_
  refine r_if_ne (tgt := 99) rfl rfl (fun qc17 => ?_) (fun qc17 => ?_)
  · replace hf := xi_pos hf qc17
    exact XR.forget (L2 := [some (.ref 1262), some (.int x1), some (.int x2), some (.int x3)]) ⟨rfl, ⟨rfl, ⟨rfl, ⟨rfl, trivial⟩⟩⟩⟩ (kb_m_tableType_99 L0 hf)
  · replace hf := xi_neg hf qc17
    refine XS.go (s_aloadn rfl rfl rfl) ?_
    refine XS.go (s_getr rfl xf12_82 (LY.lt L0 (by decide)) (LY.k1262 L0) (by decide) rfl (LY.r1262_36 L0)) ?_
    refine XS.go (s_iloadn rfl rfl rfl) ?_
    refine XS.go (s_aloadn rfl rfl rfl) ?_
    refine XS.go (s_getr rfl xf12_28 (LY.lt L0 (by decide)) (LY.k1262 L0) (by decide) rfl (LY.r1262_11 L0)) ?_
    refine XS.go (s_aloadn rfl rfl rfl) ?_
    refine XS.go (s_getie rfl xf12_224 (LY.lt L0 (by decide)) (LY.k1262 L0) (by decide) rfl rfl) ?_
    replace hf := xi_none hf
    obtain ⟨qk18, hf⟩ := hf
    refine XS.go (s_ialde rfl (LY.lt L0 (by decide)) (LY.k1269 L0) (inLit (LY.n1269 L0) qk18.1 qk18.2 (by decide)) rfl) ?_
    replace hf := xi_none hf
    obtain ⟨qk19, hf⟩ := hf
    refine XS.go (s_iast rfl (LY.lt L0 (by decide)) (LY.k1287 L0) (inLit (LY.n1287 L0) qk19.1 qk19.2 (by decide))) ?_
    exact XR.forget (L2 := [some (.ref 1262), some (.int x1), some (.int x2), some (.int x3)]) ⟨rfl, ⟨rfl, ⟨rfl, ⟨rfl, trivial⟩⟩⟩⟩ (kb_m_tableType_99 (by simp only [LY_si, LY_sj]; exact L0) hf)
def b_m_tableType_62 (x1 : Int32) (x2 : Int32) (y0 : Int32) (h : XH) : Option (Unit × XH) := (if ¬ y0 = 3 then (b_m_tableType_80 x1 x2 y0 h) else (Option.bind (f_m_isName h) fun r21 => (if ¬ r21.1 = 0 then (b_m_tableType_80 x1 x2 y0 r21.2) else (Option.bind (f_m_misfit r21.2) fun r25 => (some ((), r25.2))))))
set_option maxRecDepth 20000 in
theorem kb_m_tableType_62 {l : Launch} {G : XG} {d : Nat} {x1 : Int32} {x2 : Int32} {y0 : Int32} {h : XH} {r : Unit × XH} (L0 : LY h) (hf : b_m_tableType_62 x1 x2 y0 h = some r) : XR l G xEX12_tableType (d + 3) (62, [some (.ref 1262), some (.int x1), some (.int x2), none], [(.int y0)], h) (fun C => ∃ v, xRet xEX12_tableType C v ∧ (C.2.2.2 = r.2 ∧ v = none) ∧ LY r.2) := by
  unfold b_m_tableType_62 at hf
  refine XS.go (XS.lcl (L3 := [some (.ref 1262), some (.int x1), some (.int x2), some (.int y0)]) (s_istoren rfl rfl (Nat.le_of_ble_eq_true rfl)) rfl) ?_
  refine XS.go (s_iloadn rfl rfl rfl) ?_
  refine XS.go (s_iconst (v := 3) rfl rfl) ?_
  refine r_icmp_ne (tgt := 80) rfl rfl (fun qc20 => ?_) (fun qc20 => ?_)
  · replace hf := xi_pos hf qc20
    exact XR.forget (L2 := [some (.ref 1262), some (.int x1), some (.int x2), some (.int y0)]) ⟨rfl, ⟨rfl, ⟨rfl, ⟨rfl, trivial⟩⟩⟩⟩ (kb_m_tableType_80 L0 hf)
  · replace hf := xi_neg hf qc20
    refine XS.go (s_aloadn rfl rfl rfl) ?_
    replace hf := xb_some hf
    obtain ⟨r21, e22, hf⟩ := hf
    refine r_callv rfl xvX12_isName xm12_243 (kf_m_isName (d := d) L0 e22) (LY.lt L0 (by decide)) (LY.k1262 L0) (by decide) rfl rfl (dl0 (by decide)) (by decide) (Nat.le_of_ble_eq_true rfl) ?_
    rintro _ _ ⟨⟨rfl, rfl⟩, L23⟩
    refine r_if_ne (tgt := 80) rfl rfl (fun qc24 => ?_) (fun qc24 => ?_)
    · replace hf := xi_pos hf qc24
      exact XR.forget (L2 := [some (.ref 1262), some (.int x1), some (.int x2), some (.int y0)]) ⟨rfl, ⟨rfl, ⟨rfl, ⟨rfl, trivial⟩⟩⟩⟩ (kb_m_tableType_80 L23 hf)
    · replace hf := xi_neg hf qc24
      refine XS.go (s_aloadn rfl rfl rfl) ?_
      replace hf := xb_some hf
      obtain ⟨r25, e26, hf⟩ := hf
      refine r_callv rfl xvX12_misfit xm12_237 (kf_m_misfit (d := d) L23 e26) (LY.lt L23 (by decide)) (LY.k1262 L23) (by decide) rfl rfl (dl (by decide)) (by decide) (Nat.le_of_ble_eq_true rfl) ?_
      rintro _ _ ⟨⟨rfl, rfl⟩, L27⟩
      cases hf
      exact XR.retv rfl rfl (fun hret => ⟨_, hret, ⟨rfl, rfl⟩, L27⟩)
def b_m_tableType_37 (x1 : Int32) (x2 : Int32) (h : XH) : Option (Unit × XH) := (Option.bind (f_m_isScalar h) fun r28 => (if r28.1 = 0 then (Option.bind (f_m_isWord 16 r28.2) fun r32 => (if r32.1 = 0 then (b_m_tableType_62 x1 x2 3 r32.2) else (b_m_tableType_62 x1 x2 1 r32.2))) else (b_m_tableType_62 x1 x2 0 r28.2)))
set_option maxRecDepth 20000 in
theorem kb_m_tableType_37 {l : Launch} {G : XG} {d : Nat} {x1 : Int32} {x2 : Int32} {h : XH} {r : Unit × XH} (L0 : LY h) (hf : b_m_tableType_37 x1 x2 h = some r) : XR l G xEX12_tableType (d + 3) (37, [some (.ref 1262), some (.int x1), some (.int x2), none], [], h) (fun C => ∃ v, xRet xEX12_tableType C v ∧ (C.2.2.2 = r.2 ∧ v = none) ∧ LY r.2) := by
  unfold b_m_tableType_37 at hf
  refine XS.go (s_aloadn rfl rfl rfl) ?_
  replace hf := xb_some hf
  obtain ⟨r28, e29, hf⟩ := hf
  refine r_callv rfl xvX12_isScalar xm12_312 (kf_m_isScalar (d := d) L0 e29) (LY.lt L0 (by decide)) (LY.k1262 L0) (by decide) rfl rfl (dl0 (by decide)) (by decide) (Nat.le_of_ble_eq_true rfl) ?_
  rintro _ _ ⟨⟨rfl, rfl⟩, L30⟩
  refine r_if_eq (tgt := 48) rfl rfl (fun qc31 => ?_) (fun qc31 => ?_)
  · replace hf := xi_pos hf qc31
    refine XS.go (s_aloadn rfl rfl rfl) ?_
    refine XS.go (s_bipush (v := 16) rfl rfl) ?_
    replace hf := xb_some hf
    obtain ⟨r32, e33, hf⟩ := hf
    refine r_callv rfl xvX12_isWord xm12_269 (kf_m_isWord (d := d) L30 e33) (LY.lt L30 (by decide)) (LY.k1262 L30) (by decide) rfl rfl (dl0 (by decide)) (by decide) (Nat.le_of_ble_eq_true rfl) ?_
    rintro _ _ ⟨⟨rfl, rfl⟩, L34⟩
    refine r_if_eq (tgt := 61) rfl rfl (fun qc35 => ?_) (fun qc35 => ?_)
    · replace hf := xi_pos hf qc35
      refine XS.go (s_iconst (v := 3) rfl rfl) ?_
      exact XR.forget (L2 := [some (.ref 1262), some (.int x1), some (.int x2), none]) ⟨rfl, ⟨rfl, ⟨rfl, trivial⟩⟩⟩ (kb_m_tableType_62 L34 hf)
    · replace hf := xi_neg hf qc35
      refine XS.go (s_iconst (v := 1) rfl rfl) ?_
      refine XS.go (s_goto (tgt := 62) rfl rfl) ?_
      exact XR.forget (L2 := [some (.ref 1262), some (.int x1), some (.int x2), none]) ⟨rfl, ⟨rfl, ⟨rfl, trivial⟩⟩⟩ (kb_m_tableType_62 L34 hf)
  · replace hf := xi_neg hf qc31
    refine XS.go (s_iconst (v := 0) rfl rfl) ?_
    refine XS.go (s_goto (tgt := 62) rfl rfl) ?_
    exact XR.forget (L2 := [some (.ref 1262), some (.int x1), some (.int x2), none]) ⟨rfl, ⟨rfl, ⟨rfl, trivial⟩⟩⟩ (kb_m_tableType_62 L30 hf)
def f_m_tableType (a0 : Int32) (h : XH) : Option (Unit × XH) := (if (hi h 1262 14) = 0 then (if 0 ≤ a0 ∧ a0 < nI 256 then (Option.bind (f_m_isSign 91 (hsi (hsi h 1288 (Int32.toNatClampNeg a0) (-1)) 1287 (Int32.toNatClampNeg a0) 0)) fun r38 => (if r38.1 = 0 then (b_m_tableType_37 a0 r38.1 r38.2) else (Option.bind (f_m_take r38.2) fun r42 => (b_m_tableType_37 a0 r38.1 r42.2)))) else none) else (some ((), h)))
set_option maxRecDepth 20000 in
theorem kf_m_tableType {l : Launch} {G : XG} {d : Nat} {a0 : Int32} {h : XH} {r : Unit × XH} (L0 : LY h) (hf : f_m_tableType a0 h = some r) : XC l G xEX12_tableType (d + 3) [.ref 1262, .int a0] h (fun v h2 => (h2 = r.2 ∧ v = none) ∧ LY r.2) := by
  refine XC.virt xvX12_tableType (Nat.le_of_ble_eq_true rfl) ?_
  unfold f_m_tableType at hf
  refine XR.norm (L3 := [some (.ref 1262), some (.int a0), none, none]) rfl ?_
  refine XS.go (s_aloadn rfl rfl rfl) ?_
  refine XS.go (s_getie rfl xf12_221 (LY.lt L0 (by decide)) (LY.k1262 L0) (by decide) rfl rfl) ?_
  refine r_if_eq (tgt := 8) rfl rfl (fun qc36 => ?_) (fun qc36 => ?_)
  · replace hf := xi_pos hf qc36
    refine XS.go (s_aloadn rfl rfl rfl) ?_
    refine XS.go (s_getr rfl xf12_85 (LY.lt L0 (by decide)) (LY.k1262 L0) (by decide) rfl (LY.r1262_37 L0)) ?_
    refine XS.go (s_iloadn rfl rfl rfl) ?_
    refine XS.go (s_iconst (v := (-1)) rfl rfl) ?_
    replace hf := xi_none hf
    obtain ⟨qk37, hf⟩ := hf
    refine XS.go (s_iast rfl (LY.lt L0 (by decide)) (LY.k1288 L0) (inLit (LY.n1288 L0) qk37.1 qk37.2 (by decide))) ?_
    refine XS.go (s_aloadn rfl rfl rfl) ?_
    refine XS.go (s_getr rfl xf12_82 (LY.lt (by simp only [LY_si, LY_sj]; exact L0) (by decide)) (LY.k1262 (by simp only [LY_si, LY_sj]; exact L0)) (by decide) rfl (LY.r1262_36 (by simp only [LY_si, LY_sj]; exact L0))) ?_
    refine XS.go (s_iloadn rfl rfl rfl) ?_
    refine XS.go (s_iconst (v := 0) rfl rfl) ?_
    refine XS.go (s_iast rfl (LY.lt (by simp only [LY_si, LY_sj]; exact L0) (by decide)) (LY.k1287 (by simp only [LY_si, LY_sj]; exact L0)) (inLit (LY.n1287 (by simp only [LY_si, LY_sj]; exact L0)) qk37.1 qk37.2 (by decide))) ?_
    refine XS.go (s_aloadn rfl rfl rfl) ?_
    refine XS.go (s_bipush (v := 91) rfl rfl) ?_
    replace hf := xb_some hf
    obtain ⟨r38, e39, hf⟩ := hf
    refine r_callv rfl xvX12_isSign xm12_234 (kf_m_isSign (d := d) (by simp only [LY_si, LY_sj]; exact L0) e39) (LY.lt (by simp only [LY_si, LY_sj]; exact L0) (by decide)) (LY.k1262 (by simp only [LY_si, LY_sj]; exact L0)) (by decide) rfl rfl (dl0 (by decide)) (by decide) (Nat.le_of_ble_eq_true rfl) ?_
    rintro _ _ ⟨⟨rfl, rfl⟩, L40⟩
    refine XS.go (XS.lcl (L3 := [some (.ref 1262), some (.int a0), some (.int r38.1), none]) (s_istoren rfl rfl (Nat.le_of_ble_eq_true rfl)) rfl) ?_
    refine XS.go (s_iloadn rfl rfl rfl) ?_
    refine r_if_eq (tgt := 37) rfl rfl (fun qc41 => ?_) (fun qc41 => ?_)
    · replace hf := xi_pos hf qc41
      exact XR.forget (L2 := [some (.ref 1262), some (.int a0), some (.int r38.1), none]) ⟨rfl, ⟨rfl, ⟨rfl, trivial⟩⟩⟩ (kb_m_tableType_37 L40 hf)
    · replace hf := xi_neg hf qc41
      refine XS.go (s_aloadn rfl rfl rfl) ?_
      replace hf := xb_some hf
      obtain ⟨r42, e43, hf⟩ := hf
      refine r_callv rfl xvX12_take xm12_240 (kf_m_take (d := d) L40 e43) (LY.lt L40 (by decide)) (LY.k1262 L40) (by decide) rfl rfl (dl0 (by decide)) (by decide) (Nat.le_of_ble_eq_true rfl) ?_
      rintro _ _ ⟨⟨rfl, rfl⟩, L44⟩
      exact XR.forget (L2 := [some (.ref 1262), some (.int a0), some (.int r38.1), none]) ⟨rfl, ⟨rfl, ⟨rfl, trivial⟩⟩⟩ (kb_m_tableType_37 L44 hf)
  · replace hf := xi_neg hf qc36
    cases hf
    exact XR.retv rfl rfl (fun hret => ⟨_, hret, ⟨rfl, rfl⟩, L0⟩)
def b_m_tableBody_123 (h : XH) : Option (Unit × XH) := (Option.bind (f_m_sign 125 h) fun r1 => (some ((), (hsi r1.2 1262 31 ((hi r1.2 1262 31) + 1)))))
set_option maxRecDepth 20000 in
theorem kb_m_tableBody_123 {l : Launch} {G : XG} {d : Nat} {h : XH} {r : Unit × XH} (L0 : LY h) (hf : b_m_tableBody_123 h = some r) : XR l G xEX12_tableBody (d + 4) (123, [some (.ref 1262), none, none, none], [], h) (fun C => ∃ v, xRet xEX12_tableBody C v ∧ (C.2.2.2 = r.2 ∧ v = none) ∧ LY r.2) := by
  unfold b_m_tableBody_123 at hf
  refine XS.go (s_aloadn rfl rfl rfl) ?_
  refine XS.go (s_bipush (v := 125) rfl rfl) ?_
  replace hf := xb_some hf
  obtain ⟨r1, e2, hf⟩ := hf
  refine r_callv rfl xvX12_sign xm12_282 (kf_m_sign (d := d) L0 e2) (LY.lt L0 (by decide)) (LY.k1262 L0) (by decide) rfl rfl (dl (by decide)) (by decide) (Nat.le_of_ble_eq_true rfl) ?_
  rintro _ _ ⟨⟨rfl, rfl⟩, L3⟩
  refine XS.go (s_aloadn rfl rfl rfl) ?_
  refine XS.go (s_dup rfl rfl) ?_
  refine XS.go (s_getie rfl xf12_257 (LY.lt L3 (by decide)) (LY.k1262 L3) (by decide) rfl rfl) ?_
  refine XS.go (s_iconst (v := 1) rfl rfl) ?_
  refine XS.go (s_iadd rfl) ?_
  refine XS.go (s_puti rfl xf12_257 (LY.lt L3 (by decide)) (LY.k1262 L3) (by decide) rfl (Or.inl rfl)) ?_
  cases hf
  exact XR.retv rfl rfl (fun hret => ⟨_, hret, ⟨rfl, rfl⟩, (by simp only [LY_si, LY_sj]; exact L3)⟩)
def b_m_tableBody_120 (K12 : Int32 → XH → Option (Unit × XH)) (x1 : Int32) (h : XH) : Option (Unit × XH) := (K12 x1 h)
set_option maxRecDepth 20000 in
theorem kb_m_tableBody_120 {l : Launch} {G : XG} {d : Nat} {K12 : Int32 → XH → Option (Unit × XH)} {x1 : Int32} {h : XH} {r : Unit × XH} (hK12 : ∀ (x1 : Int32) (h : XH), LY h → K12 x1 h = some r → XR l G xEX12_tableBody (d + 4) (12, [some (.ref 1262), some (.int x1), none, none], [], h) (fun C => ∃ v, xRet xEX12_tableBody C v ∧ (C.2.2.2 = r.2 ∧ v = none) ∧ LY r.2)) (L0 : LY h) (hf : b_m_tableBody_120 K12 x1 h = some r) : XR l G xEX12_tableBody (d + 4) (120, [some (.ref 1262), some (.int x1), none, none], [], h) (fun C => ∃ v, xRet xEX12_tableBody C v ∧ (C.2.2.2 = r.2 ∧ v = none) ∧ LY r.2) := by
  unfold b_m_tableBody_120 at hf
  refine XS.go (s_goto (tgt := 12) rfl rfl) ?_
  exact XR.forget (L2 := [some (.ref 1262), some (.int x1), none, none]) ⟨rfl, ⟨rfl, trivial⟩⟩ (hK12 x1 _ L0 hf)
def s_m_tableBody_12 (K12 : Int32 → XH → Option (Unit × XH)) (x1 : Int32) (h : XH) : Option (Unit × XH) := (if ¬ (hi h 1262 14) = 0 then (b_m_tableBody_123 h) else (Option.bind (f_m_isSign 125 h) fun r5 => (if ¬ r5.1 = 0 then (b_m_tableBody_123 r5.2) else (if 0 ≤ x1 ∧ x1 < nI 16 then (Option.bind (f_m_fresh 1285 (16 * x1) (hi r5.2 1283 (Int32.toNatClampNeg x1)) 16 r5.2) fun r10 => (Option.bind (f_m_take r10.2) fun r13 => (Option.bind (f_m_sign 58 r13.2) fun r16 => (Option.bind (f_m_tableType ((16 * x1) + (hi r5.2 1283 (Int32.toNatClampNeg x1))) r16.2) fun r19 => (Option.bind (f_m_defaults ((16 * x1) + (hi r5.2 1283 (Int32.toNatClampNeg x1))) r19.2) fun r22 => (Option.bind (f_m_needed ((16 * x1) + (hi r5.2 1283 (Int32.toNatClampNeg x1))) r22.2) fun r25 => (Option.bind (f_m_sign 59 r25.2) fun r28 => (if ¬ (hi r28.2 1262 14) = 0 then (b_m_tableBody_120 K12 x1 r28.2) else (if 0 ≤ ((16 * x1) + (hi r5.2 1283 (Int32.toNatClampNeg x1))) ∧ ((16 * x1) + (hi r5.2 1283 (Int32.toNatClampNeg x1))) < nI 256 then (if 0 ≤ x1 ∧ x1 < nI 16 then (b_m_tableBody_120 K12 x1 (hsi (hsi r28.2 1285 (Int32.toNatClampNeg ((16 * x1) + (hi r5.2 1283 (Int32.toNatClampNeg x1)))) (hi r10.2 1262 13)) 1283 (Int32.toNatClampNeg x1) ((hi r28.2 1283 (Int32.toNatClampNeg x1)) + 1))) else none) else none))))))))) else none))))
set_option maxRecDepth 20000 in
theorem ks_m_tableBody_12 {l : Launch} {G : XG} {d : Nat} {K12 : Int32 → XH → Option (Unit × XH)} {x1 : Int32} {h : XH} {r : Unit × XH} (hK12 : ∀ (x1 : Int32) (h : XH), LY h → K12 x1 h = some r → XR l G xEX12_tableBody (d + 4) (12, [some (.ref 1262), some (.int x1), none, none], [], h) (fun C => ∃ v, xRet xEX12_tableBody C v ∧ (C.2.2.2 = r.2 ∧ v = none) ∧ LY r.2)) (L0 : LY h) (hf : s_m_tableBody_12 K12 x1 h = some r) : XR l G xEX12_tableBody (d + 4) (12, [some (.ref 1262), some (.int x1), none, none], [], h) (fun C => ∃ v, xRet xEX12_tableBody C v ∧ (C.2.2.2 = r.2 ∧ v = none) ∧ LY r.2) := by
  unfold s_m_tableBody_12 at hf
  refine XS.go (s_aloadn rfl rfl rfl) ?_
  refine XS.go (s_getie rfl xf12_221 (LY.lt L0 (by decide)) (LY.k1262 L0) (by decide) rfl rfl) ?_
  refine r_if_ne (tgt := 123) rfl rfl (fun qc4 => ?_) (fun qc4 => ?_)
  · replace hf := xi_pos hf qc4
    exact XR.forget (L2 := [some (.ref 1262), none, none, none]) ⟨rfl, trivial⟩ (kb_m_tableBody_123 L0 hf)
  · replace hf := xi_neg hf qc4
    refine XS.go (s_aloadn rfl rfl rfl) ?_
    refine XS.go (s_bipush (v := 125) rfl rfl) ?_
    replace hf := xb_some hf
    obtain ⟨r5, e6, hf⟩ := hf
    refine r_callv rfl xvX12_isSign xm12_234 (kf_m_isSign (d := d) L0 e6) (LY.lt L0 (by decide)) (LY.k1262 L0) (by decide) rfl rfl (dl0 (by decide)) (by decide) (Nat.le_of_ble_eq_true rfl) ?_
    rintro _ _ ⟨⟨rfl, rfl⟩, L7⟩
    refine r_if_ne (tgt := 123) rfl rfl (fun qc8 => ?_) (fun qc8 => ?_)
    · replace hf := xi_pos hf qc8
      exact XR.forget (L2 := [some (.ref 1262), none, none, none]) ⟨rfl, trivial⟩ (kb_m_tableBody_123 L7 hf)
    · replace hf := xi_neg hf qc8
      refine XS.go (s_bipush (v := 16) rfl rfl) ?_
      refine XS.go (s_iloadn rfl rfl rfl) ?_
      refine XS.go (s_imul rfl) ?_
      refine XS.go (s_aloadn rfl rfl rfl) ?_
      refine XS.go (s_getr rfl xf12_70 (LY.lt L7 (by decide)) (LY.k1262 L7) (by decide) rfl (LY.r1262_32 L7)) ?_
      refine XS.go (s_iloadn rfl rfl rfl) ?_
      replace hf := xi_none hf
      obtain ⟨qk9, hf⟩ := hf
      refine XS.go (s_ialde rfl (LY.lt L7 (by decide)) (LY.k1283 L7) (inLit (LY.n1283 L7) qk9.1 qk9.2 (by decide)) rfl) ?_
      refine XS.go (s_iadd rfl) ?_
      refine XS.go (XS.lcl (L3 := [some (.ref 1262), some (.int x1), some (.int ((16 * x1) + (hi r5.2 1283 (Int32.toNatClampNeg x1)))), none]) (s_istoren rfl rfl (Nat.le_of_ble_eq_true rfl)) rfl) ?_
      refine XS.go (s_aloadn rfl rfl rfl) ?_
      refine XS.go (s_aloadn rfl rfl rfl) ?_
      refine XS.go (s_getr rfl xf12_76 (LY.lt L7 (by decide)) (LY.k1262 L7) (by decide) rfl (LY.r1262_34 L7)) ?_
      refine XS.go (s_bipush (v := 16) rfl rfl) ?_
      refine XS.go (s_iloadn rfl rfl rfl) ?_
      refine XS.go (s_imul rfl) ?_
      refine XS.go (s_aloadn rfl rfl rfl) ?_
      refine XS.go (s_getr rfl xf12_70 (LY.lt L7 (by decide)) (LY.k1262 L7) (by decide) rfl (LY.r1262_32 L7)) ?_
      refine XS.go (s_iloadn rfl rfl rfl) ?_
      refine XS.go (s_ialde rfl (LY.lt L7 (by decide)) (LY.k1283 L7) (inLit (LY.n1283 L7) qk9.1 qk9.2 (by decide)) rfl) ?_
      refine XS.go (s_bipush (v := 16) rfl rfl) ?_
      replace hf := xb_some hf
      obtain ⟨r10, e11, hf⟩ := hf
      refine r_callv rfl xvX12_fresh xm12_301 (kf_m_fresh (d := d) L7 e11) (LY.lt L7 (by decide)) (LY.k1262 L7) (by decide) rfl rfl (dl (by decide)) (by decide) (Nat.le_of_ble_eq_true rfl) ?_
      rintro _ _ ⟨⟨rfl, rfl⟩, L12⟩
      refine XS.go (s_aloadn rfl rfl rfl) ?_
      refine XS.go (s_getie rfl xf12_224 (LY.lt L12 (by decide)) (LY.k1262 L12) (by decide) rfl rfl) ?_
      refine XS.go (XS.lcl (L3 := [some (.ref 1262), some (.int x1), some (.int ((16 * x1) + (hi r5.2 1283 (Int32.toNatClampNeg x1)))), some (.int (hi r10.2 1262 13))]) (s_istoren rfl rfl (Nat.le_of_ble_eq_true rfl)) rfl) ?_
      refine XS.go (s_aloadn rfl rfl rfl) ?_
      replace hf := xb_some hf
      obtain ⟨r13, e14, hf⟩ := hf
      refine r_callv rfl xvX12_take xm12_240 (kf_m_take (d := d) L12 e14) (LY.lt L12 (by decide)) (LY.k1262 L12) (by decide) rfl rfl (dl0 (by decide)) (by decide) (Nat.le_of_ble_eq_true rfl) ?_
      rintro _ _ ⟨⟨rfl, rfl⟩, L15⟩
      refine XS.go (s_aloadn rfl rfl rfl) ?_
      refine XS.go (s_bipush (v := 58) rfl rfl) ?_
      replace hf := xb_some hf
      obtain ⟨r16, e17, hf⟩ := hf
      refine r_callv rfl xvX12_sign xm12_282 (kf_m_sign (d := d) L15 e17) (LY.lt L15 (by decide)) (LY.k1262 L15) (by decide) rfl rfl (dl (by decide)) (by decide) (Nat.le_of_ble_eq_true rfl) ?_
      rintro _ _ ⟨⟨rfl, rfl⟩, L18⟩
      refine XS.go (s_aloadn rfl rfl rfl) ?_
      refine XS.go (s_iloadn rfl rfl rfl) ?_
      replace hf := xb_some hf
      obtain ⟨r19, e20, hf⟩ := hf
      refine r_callv rfl xvX12_tableType xm12_321 (kf_m_tableType (d := d) L18 e20) (LY.lt L18 (by decide)) (LY.k1262 L18) (by decide) rfl rfl (dl (by decide)) (by decide) (Nat.le_of_ble_eq_true rfl) ?_
      rintro _ _ ⟨⟨rfl, rfl⟩, L21⟩
      refine XS.go (s_aloadn rfl rfl rfl) ?_
      refine XS.go (s_iloadn rfl rfl rfl) ?_
      replace hf := xb_some hf
      obtain ⟨r22, e23, hf⟩ := hf
      refine r_callv rfl xvX12_defaults xm12_324 (kf_m_defaults (d := d) L21 e23) (LY.lt L21 (by decide)) (LY.k1262 L21) (by decide) rfl rfl (dl (by decide)) (by decide) (Nat.le_of_ble_eq_true rfl) ?_
      rintro _ _ ⟨⟨rfl, rfl⟩, L24⟩
      refine XS.go (s_aloadn rfl rfl rfl) ?_
      refine XS.go (s_iloadn rfl rfl rfl) ?_
      replace hf := xb_some hf
      obtain ⟨r25, e26, hf⟩ := hf
      refine r_callv rfl xvX12_needed xm12_327 (kf_m_needed (d := d) L24 e26) (LY.lt L24 (by decide)) (LY.k1262 L24) (by decide) rfl rfl (dl (by decide)) (by decide) (Nat.le_of_ble_eq_true rfl) ?_
      rintro _ _ ⟨⟨rfl, rfl⟩, L27⟩
      refine XS.go (s_aloadn rfl rfl rfl) ?_
      refine XS.go (s_bipush (v := 59) rfl rfl) ?_
      replace hf := xb_some hf
      obtain ⟨r28, e29, hf⟩ := hf
      refine r_callv rfl xvX12_sign xm12_282 (kf_m_sign (d := d) L27 e29) (LY.lt L27 (by decide)) (LY.k1262 L27) (by decide) rfl rfl (dl (by decide)) (by decide) (Nat.le_of_ble_eq_true rfl) ?_
      rintro _ _ ⟨⟨rfl, rfl⟩, L30⟩
      refine XS.go (s_aloadn rfl rfl rfl) ?_
      refine XS.go (s_getie rfl xf12_221 (LY.lt L30 (by decide)) (LY.k1262 L30) (by decide) rfl rfl) ?_
      refine r_if_ne (tgt := 120) rfl rfl (fun qc31 => ?_) (fun qc31 => ?_)
      · replace hf := xi_pos hf qc31
        exact XR.forget (L2 := [some (.ref 1262), some (.int x1), none, none]) ⟨rfl, ⟨rfl, trivial⟩⟩ (kb_m_tableBody_120 hK12 L30 hf)
      · replace hf := xi_neg hf qc31
        refine XS.go (s_aloadn rfl rfl rfl) ?_
        refine XS.go (s_getr rfl xf12_76 (LY.lt L30 (by decide)) (LY.k1262 L30) (by decide) rfl (LY.r1262_34 L30)) ?_
        refine XS.go (s_iloadn rfl rfl rfl) ?_
        refine XS.go (s_iloadn rfl rfl rfl) ?_
        replace hf := xi_none hf
        obtain ⟨qk32, hf⟩ := hf
        refine XS.go (s_iast rfl (LY.lt L30 (by decide)) (LY.k1285 L30) (inLit (LY.n1285 L30) qk32.1 qk32.2 (by decide))) ?_
        refine XS.go (s_aloadn rfl rfl rfl) ?_
        refine XS.go (s_getr rfl xf12_70 (LY.lt (by simp only [LY_si, LY_sj]; exact L30) (by decide)) (LY.k1262 (by simp only [LY_si, LY_sj]; exact L30)) (by decide) rfl (LY.r1262_32 (by simp only [LY_si, LY_sj]; exact L30))) ?_
        refine XS.go (s_iloadn rfl rfl rfl) ?_
        refine XS.go (s_dup2 rfl rfl rfl) ?_
        replace hf := xi_none hf
        obtain ⟨qk33, hf⟩ := hf
        refine XS.go (s_ialde rfl (LY.lt (by simp only [LY_si, LY_sj]; exact L30) (by decide)) (LY.k1283 (by simp only [LY_si, LY_sj]; exact L30)) (inLit (LY.n1283 (by simp only [LY_si, LY_sj]; exact L30)) qk33.1 qk33.2 (by decide)) (hi_hsi_na (by decide))) ?_
        refine XS.go (s_iconst (v := 1) rfl rfl) ?_
        refine XS.go (s_iadd rfl) ?_
        refine XS.go (s_iast rfl (LY.lt (by simp only [LY_si, LY_sj]; exact L30) (by decide)) (LY.k1283 (by simp only [LY_si, LY_sj]; exact L30)) (inLit (LY.n1283 (by simp only [LY_si, LY_sj]; exact L30)) qk33.1 qk33.2 (by decide))) ?_
        exact XR.forget (L2 := [some (.ref 1262), some (.int x1), none, none]) ⟨rfl, ⟨rfl, trivial⟩⟩ (kb_m_tableBody_120 hK12 (by simp only [LY_si, LY_sj]; exact L30) hf)
def b_m_tableBody_12 : Nat → Int32 → XH → Option (Unit × XH)
  | 0, _, _ => none
  | n + 1, x1, h => s_m_tableBody_12 (b_m_tableBody_12 n) x1 h
theorem kb_m_tableBody_12 {l : Launch} {G : XG} {d : Nat} {n : Nat} {x1 : Int32} {h : XH} {r : Unit × XH} (L0 : LY h) (hf : b_m_tableBody_12 n x1 h = some r) : XR l G xEX12_tableBody (d + 4) (12, [some (.ref 1262), some (.int x1), none, none], [], h) (fun C => ∃ v, xRet xEX12_tableBody C v ∧ (C.2.2.2 = r.2 ∧ v = none) ∧ LY r.2) := by
  induction n generalizing x1 h with
  | zero => cases hf
  | succ n ih => exact ks_m_tableBody_12 (fun x1 h L0 hf => ih (h := h) (x1 := x1) L0 hf) L0 hf
def f_m_tableBody (h : XH) : Option (Unit × XH) := (if 0 ≤ (hi h 1262 31) ∧ (hi h 1262 31) < nI 16 then (b_m_tableBody_12 100000 (hi h 1262 31) (hsi h 1283 (Int32.toNatClampNeg (hi h 1262 31)) 0)) else none)
set_option maxRecDepth 20000 in
theorem kf_m_tableBody {l : Launch} {G : XG} {d : Nat} {h : XH} {r : Unit × XH} (L0 : LY h) (hf : f_m_tableBody h = some r) : XC l G xEX12_tableBody (d + 4) [.ref 1262] h (fun v h2 => (h2 = r.2 ∧ v = none) ∧ LY r.2) := by
  refine XC.virt xvX12_tableBody (Nat.le_of_ble_eq_true rfl) ?_
  unfold f_m_tableBody at hf
  refine XR.norm (L3 := [some (.ref 1262), none, none, none]) rfl ?_
  refine XS.go (s_aloadn rfl rfl rfl) ?_
  refine XS.go (s_getie rfl xf12_257 (LY.lt L0 (by decide)) (LY.k1262 L0) (by decide) rfl rfl) ?_
  refine XS.go (XS.lcl (L3 := [some (.ref 1262), some (.int (hi h 1262 31)), none, none]) (s_istoren rfl rfl (Nat.le_of_ble_eq_true rfl)) rfl) ?_
  refine XS.go (s_aloadn rfl rfl rfl) ?_
  refine XS.go (s_getr rfl xf12_70 (LY.lt L0 (by decide)) (LY.k1262 L0) (by decide) rfl (LY.r1262_32 L0)) ?_
  refine XS.go (s_iloadn rfl rfl rfl) ?_
  refine XS.go (s_iconst (v := 0) rfl rfl) ?_
  replace hf := xi_none hf
  obtain ⟨qk34, hf⟩ := hf
  refine XS.go (s_iast rfl (LY.lt L0 (by decide)) (LY.k1283 L0) (inLit (LY.n1283 L0) qk34.1 qk34.2 (by decide))) ?_
  exact XR.forget (L2 := [some (.ref 1262), some (.int (hi h 1262 31)), none, none]) ⟨rfl, ⟨rfl, trivial⟩⟩ (kb_m_tableBody_12 (by simp only [LY_si, LY_sj]; exact L0) hf)
def b_m_unionBody_116 (h : XH) : Option (Unit × XH) := (Option.bind (f_m_sign 125 h) fun r1 => (some ((), (hsi r1.2 1262 41 ((hi r1.2 1262 41) + 1)))))
set_option maxRecDepth 20000 in
theorem kb_m_unionBody_116 {l : Launch} {G : XG} {d : Nat} {h : XH} {r : Unit × XH} (L0 : LY h) (hf : b_m_unionBody_116 h = some r) : XR l G xEX12_unionBody (d + 3) (116, [some (.ref 1262), none, none, none], [], h) (fun C => ∃ v, xRet xEX12_unionBody C v ∧ (C.2.2.2 = r.2 ∧ v = none) ∧ LY r.2) := by
  unfold b_m_unionBody_116 at hf
  refine XS.go (s_aloadn rfl rfl rfl) ?_
  refine XS.go (s_bipush (v := 125) rfl rfl) ?_
  replace hf := xb_some hf
  obtain ⟨r1, e2, hf⟩ := hf
  refine r_callv rfl xvX12_sign xm12_282 (kf_m_sign (d := d) L0 e2) (LY.lt L0 (by decide)) (LY.k1262 L0) (by decide) rfl rfl (dl (by decide)) (by decide) (Nat.le_of_ble_eq_true rfl) ?_
  rintro _ _ ⟨⟨rfl, rfl⟩, L3⟩
  refine XS.go (s_aloadn rfl rfl rfl) ?_
  refine XS.go (s_dup rfl rfl) ?_
  refine XS.go (s_getie rfl xf12_260 (LY.lt L3 (by decide)) (LY.k1262 L3) (by decide) rfl rfl) ?_
  refine XS.go (s_iconst (v := 1) rfl rfl) ?_
  refine XS.go (s_iadd rfl) ?_
  refine XS.go (s_puti rfl xf12_260 (LY.lt L3 (by decide)) (LY.k1262 L3) (by decide) rfl (Or.inl rfl)) ?_
  cases hf
  exact XR.retv rfl rfl (fun hret => ⟨_, hret, ⟨rfl, rfl⟩, (by simp only [LY_si, LY_sj]; exact L3)⟩)
def b_m_unionBody_113 (K14 : Int32 → Int32 → XH → Option (Unit × XH)) (x1 : Int32) (x2 : Int32) (h : XH) : Option (Unit × XH) := (K14 x1 x2 h)
set_option maxRecDepth 20000 in
theorem kb_m_unionBody_113 {l : Launch} {G : XG} {d : Nat} {K14 : Int32 → Int32 → XH → Option (Unit × XH)} {x1 : Int32} {x2 : Int32} {h : XH} {r : Unit × XH} (hK14 : ∀ (x1 : Int32) (x2 : Int32) (h : XH), LY h → K14 x1 x2 h = some r → XR l G xEX12_unionBody (d + 3) (14, [some (.ref 1262), some (.int x1), some (.int x2), none], [], h) (fun C => ∃ v, xRet xEX12_unionBody C v ∧ (C.2.2.2 = r.2 ∧ v = none) ∧ LY r.2)) (L0 : LY h) (hf : b_m_unionBody_113 K14 x1 x2 h = some r) : XR l G xEX12_unionBody (d + 3) (113, [some (.ref 1262), some (.int x1), some (.int x2), none], [], h) (fun C => ∃ v, xRet xEX12_unionBody C v ∧ (C.2.2.2 = r.2 ∧ v = none) ∧ LY r.2) := by
  unfold b_m_unionBody_113 at hf
  refine XS.go (s_goto (tgt := 14) rfl rfl) ?_
  exact XR.forget (L2 := [some (.ref 1262), some (.int x1), some (.int x2), none]) ⟨rfl, ⟨rfl, ⟨rfl, trivial⟩⟩⟩ (hK14 x1 x2 _ L0 hf)
def b_m_unionBody_94 (K14 : Int32 → Int32 → XH → Option (Unit × XH)) (x1 : Int32) (h : XH) : Option (Unit × XH) := (Option.bind (f_m_take h) fun r4 => (Option.bind (f_m_isSign 44 r4.2) fun r7 => (if r7.1 = 0 then (b_m_unionBody_113 K14 x1 r7.1 r7.2) else (Option.bind (f_m_take r7.2) fun r11 => (b_m_unionBody_113 K14 x1 r7.1 r11.2)))))
set_option maxRecDepth 20000 in
theorem kb_m_unionBody_94 {l : Launch} {G : XG} {d : Nat} {K14 : Int32 → Int32 → XH → Option (Unit × XH)} {x1 : Int32} {h : XH} {r : Unit × XH} (hK14 : ∀ (x1 : Int32) (x2 : Int32) (h : XH), LY h → K14 x1 x2 h = some r → XR l G xEX12_unionBody (d + 3) (14, [some (.ref 1262), some (.int x1), some (.int x2), none], [], h) (fun C => ∃ v, xRet xEX12_unionBody C v ∧ (C.2.2.2 = r.2 ∧ v = none) ∧ LY r.2)) (L0 : LY h) (hf : b_m_unionBody_94 K14 x1 h = some r) : XR l G xEX12_unionBody (d + 3) (94, [some (.ref 1262), some (.int x1), none, none], [], h) (fun C => ∃ v, xRet xEX12_unionBody C v ∧ (C.2.2.2 = r.2 ∧ v = none) ∧ LY r.2) := by
  unfold b_m_unionBody_94 at hf
  refine XS.go (s_aloadn rfl rfl rfl) ?_
  replace hf := xb_some hf
  obtain ⟨r4, e5, hf⟩ := hf
  refine r_callv rfl xvX12_take xm12_240 (kf_m_take (d := d) L0 e5) (LY.lt L0 (by decide)) (LY.k1262 L0) (by decide) rfl rfl (dl0 (by decide)) (by decide) (Nat.le_of_ble_eq_true rfl) ?_
  rintro _ _ ⟨⟨rfl, rfl⟩, L6⟩
  refine XS.go (s_aloadn rfl rfl rfl) ?_
  refine XS.go (s_bipush (v := 44) rfl rfl) ?_
  replace hf := xb_some hf
  obtain ⟨r7, e8, hf⟩ := hf
  refine r_callv rfl xvX12_isSign xm12_234 (kf_m_isSign (d := d) L6 e8) (LY.lt L6 (by decide)) (LY.k1262 L6) (by decide) rfl rfl (dl0 (by decide)) (by decide) (Nat.le_of_ble_eq_true rfl) ?_
  rintro _ _ ⟨⟨rfl, rfl⟩, L9⟩
  refine XS.go (XS.lcl (L3 := [some (.ref 1262), some (.int x1), some (.int r7.1), none]) (s_istoren rfl rfl (Nat.le_of_ble_eq_true rfl)) rfl) ?_
  refine XS.go (s_iloadn rfl rfl rfl) ?_
  refine r_if_eq (tgt := 113) rfl rfl (fun qc10 => ?_) (fun qc10 => ?_)
  · replace hf := xi_pos hf qc10
    exact XR.forget (L2 := [some (.ref 1262), some (.int x1), some (.int r7.1), none]) ⟨rfl, ⟨rfl, ⟨rfl, trivial⟩⟩⟩ (kb_m_unionBody_113 hK14 L9 hf)
  · replace hf := xi_neg hf qc10
    refine XS.go (s_aloadn rfl rfl rfl) ?_
    replace hf := xb_some hf
    obtain ⟨r11, e12, hf⟩ := hf
    refine r_callv rfl xvX12_take xm12_240 (kf_m_take (d := d) L9 e12) (LY.lt L9 (by decide)) (LY.k1262 L9) (by decide) rfl rfl (dl0 (by decide)) (by decide) (Nat.le_of_ble_eq_true rfl) ?_
    rintro _ _ ⟨⟨rfl, rfl⟩, L13⟩
    exact XR.forget (L2 := [some (.ref 1262), some (.int x1), some (.int r7.1), none]) ⟨rfl, ⟨rfl, ⟨rfl, trivial⟩⟩⟩ (kb_m_unionBody_113 hK14 L13 hf)
def s_m_unionBody_14 (K14 : Int32 → Int32 → XH → Option (Unit × XH)) (x1 : Int32) (x2 : Int32) (h : XH) : Option (Unit × XH) := (if x2 = 0 then (b_m_unionBody_116 h) else (if ¬ (hi h 1262 14) = 0 then (b_m_unionBody_116 h) else (if 0 ≤ x1 ∧ x1 < nI 8 then (Option.bind (f_m_fresh 1293 (8 * x1) (hi h 1292 (Int32.toNatClampNeg x1)) 8 h) fun r17 => (if ¬ (hi r17.2 1262 14) = 0 then (b_m_unionBody_94 K14 x1 r17.2) else (if 0 ≤ ((8 * x1) + (hi h 1292 (Int32.toNatClampNeg x1))) ∧ ((8 * x1) + (hi h 1292 (Int32.toNatClampNeg x1))) < nI 64 then (Option.bind (f_m_ask (hi r17.2 1262 13) 2 ((8 * x1) + (hi h 1292 (Int32.toNatClampNeg x1))) (hsi r17.2 1293 (Int32.toNatClampNeg ((8 * x1) + (hi h 1292 (Int32.toNatClampNeg x1)))) (hi r17.2 1262 13))) fun r22 => (if 0 ≤ x1 ∧ x1 < nI 8 then (b_m_unionBody_94 K14 x1 (hsi r22.2 1292 (Int32.toNatClampNeg x1) ((hi r22.2 1292 (Int32.toNatClampNeg x1)) + 1))) else none)) else none))) else none)))
set_option maxRecDepth 20000 in
theorem ks_m_unionBody_14 {l : Launch} {G : XG} {d : Nat} {K14 : Int32 → Int32 → XH → Option (Unit × XH)} {x1 : Int32} {x2 : Int32} {h : XH} {r : Unit × XH} (hK14 : ∀ (x1 : Int32) (x2 : Int32) (h : XH), LY h → K14 x1 x2 h = some r → XR l G xEX12_unionBody (d + 3) (14, [some (.ref 1262), some (.int x1), some (.int x2), none], [], h) (fun C => ∃ v, xRet xEX12_unionBody C v ∧ (C.2.2.2 = r.2 ∧ v = none) ∧ LY r.2)) (L0 : LY h) (hf : s_m_unionBody_14 K14 x1 x2 h = some r) : XR l G xEX12_unionBody (d + 3) (14, [some (.ref 1262), some (.int x1), some (.int x2), none], [], h) (fun C => ∃ v, xRet xEX12_unionBody C v ∧ (C.2.2.2 = r.2 ∧ v = none) ∧ LY r.2) := by
  unfold s_m_unionBody_14 at hf
  refine XS.go (s_iloadn rfl rfl rfl) ?_
  refine r_if_eq (tgt := 116) rfl rfl (fun qc14 => ?_) (fun qc14 => ?_)
  · replace hf := xi_pos hf qc14
    exact XR.forget (L2 := [some (.ref 1262), none, none, none]) ⟨rfl, trivial⟩ (kb_m_unionBody_116 L0 hf)
  · replace hf := xi_neg hf qc14
    refine XS.go (s_aloadn rfl rfl rfl) ?_
    refine XS.go (s_getie rfl xf12_221 (LY.lt L0 (by decide)) (LY.k1262 L0) (by decide) rfl rfl) ?_
    refine r_if_ne (tgt := 116) rfl rfl (fun qc15 => ?_) (fun qc15 => ?_)
    · replace hf := xi_pos hf qc15
      exact XR.forget (L2 := [some (.ref 1262), none, none, none]) ⟨rfl, trivial⟩ (kb_m_unionBody_116 L0 hf)
    · replace hf := xi_neg hf qc15
      refine XS.go (s_bipush (v := 8) rfl rfl) ?_
      refine XS.go (s_iloadn rfl rfl rfl) ?_
      refine XS.go (s_imul rfl) ?_
      refine XS.go (s_aloadn rfl rfl rfl) ?_
      refine XS.go (s_getr rfl xf12_98 (LY.lt L0 (by decide)) (LY.k1262 L0) (by decide) rfl (LY.r1262_42 L0)) ?_
      refine XS.go (s_iloadn rfl rfl rfl) ?_
      replace hf := xi_none hf
      obtain ⟨qk16, hf⟩ := hf
      refine XS.go (s_ialde rfl (LY.lt L0 (by decide)) (LY.k1292 L0) (inLit (LY.n1292 L0) qk16.1 qk16.2 (by decide)) rfl) ?_
      refine XS.go (s_iadd rfl) ?_
      refine XS.go (XS.lcl (L3 := [some (.ref 1262), some (.int x1), some (.int x2), some (.int ((8 * x1) + (hi h 1292 (Int32.toNatClampNeg x1))))]) (s_istoren rfl rfl (Nat.le_of_ble_eq_true rfl)) rfl) ?_
      refine XS.go (s_aloadn rfl rfl rfl) ?_
      refine XS.go (s_aloadn rfl rfl rfl) ?_
      refine XS.go (s_getr rfl xf12_101 (LY.lt L0 (by decide)) (LY.k1262 L0) (by decide) rfl (LY.r1262_43 L0)) ?_
      refine XS.go (s_bipush (v := 8) rfl rfl) ?_
      refine XS.go (s_iloadn rfl rfl rfl) ?_
      refine XS.go (s_imul rfl) ?_
      refine XS.go (s_aloadn rfl rfl rfl) ?_
      refine XS.go (s_getr rfl xf12_98 (LY.lt L0 (by decide)) (LY.k1262 L0) (by decide) rfl (LY.r1262_42 L0)) ?_
      refine XS.go (s_iloadn rfl rfl rfl) ?_
      refine XS.go (s_ialde rfl (LY.lt L0 (by decide)) (LY.k1292 L0) (inLit (LY.n1292 L0) qk16.1 qk16.2 (by decide)) rfl) ?_
      refine XS.go (s_bipush (v := 8) rfl rfl) ?_
      replace hf := xb_some hf
      obtain ⟨r17, e18, hf⟩ := hf
      refine r_callv rfl xvX12_fresh xm12_301 (kf_m_fresh (d := d) L0 e18) (LY.lt L0 (by decide)) (LY.k1262 L0) (by decide) rfl rfl (dl (by decide)) (by decide) (Nat.le_of_ble_eq_true rfl) ?_
      rintro _ _ ⟨⟨rfl, rfl⟩, L19⟩
      refine XS.go (s_aloadn rfl rfl rfl) ?_
      refine XS.go (s_getie rfl xf12_221 (LY.lt L19 (by decide)) (LY.k1262 L19) (by decide) rfl rfl) ?_
      refine r_if_ne (tgt := 94) rfl rfl (fun qc20 => ?_) (fun qc20 => ?_)
      · replace hf := xi_pos hf qc20
        exact XR.forget (L2 := [some (.ref 1262), some (.int x1), none, none]) ⟨rfl, ⟨rfl, trivial⟩⟩ (kb_m_unionBody_94 hK14 L19 hf)
      · replace hf := xi_neg hf qc20
        refine XS.go (s_aloadn rfl rfl rfl) ?_
        refine XS.go (s_getr rfl xf12_101 (LY.lt L19 (by decide)) (LY.k1262 L19) (by decide) rfl (LY.r1262_43 L19)) ?_
        refine XS.go (s_iloadn rfl rfl rfl) ?_
        refine XS.go (s_aloadn rfl rfl rfl) ?_
        refine XS.go (s_getie rfl xf12_224 (LY.lt L19 (by decide)) (LY.k1262 L19) (by decide) rfl rfl) ?_
        replace hf := xi_none hf
        obtain ⟨qk21, hf⟩ := hf
        refine XS.go (s_iast rfl (LY.lt L19 (by decide)) (LY.k1293 L19) (inLit (LY.n1293 L19) qk21.1 qk21.2 (by decide))) ?_
        refine XS.go (s_aloadn rfl rfl rfl) ?_
        refine XS.go (s_aloadn rfl rfl rfl) ?_
        refine XS.go (s_getie rfl xf12_224 (LY.lt (by simp only [LY_si, LY_sj]; exact L19) (by decide)) (LY.k1262 (by simp only [LY_si, LY_sj]; exact L19)) (by decide) rfl (hi_hsi_na (by decide))) ?_
        refine XS.go (s_iconst (v := 2) rfl rfl) ?_
        refine XS.go (s_iloadn rfl rfl rfl) ?_
        replace hf := xb_some hf
        obtain ⟨r22, e23, hf⟩ := hf
        refine r_callv rfl xvX12_ask xm12_278 (kf_m_ask (d := d) (by simp only [LY_si, LY_sj]; exact L19) e23) (LY.lt (by simp only [LY_si, LY_sj]; exact L19) (by decide)) (LY.k1262 (by simp only [LY_si, LY_sj]; exact L19)) (by decide) rfl rfl (dl0 (by decide)) (by decide) (Nat.le_of_ble_eq_true rfl) ?_
        rintro _ _ ⟨⟨rfl, rfl⟩, L24⟩
        refine XS.go (s_aloadn rfl rfl rfl) ?_
        refine XS.go (s_getr rfl xf12_98 (LY.lt L24 (by decide)) (LY.k1262 L24) (by decide) rfl (LY.r1262_42 L24)) ?_
        refine XS.go (s_iloadn rfl rfl rfl) ?_
        refine XS.go (s_dup2 rfl rfl rfl) ?_
        replace hf := xi_none hf
        obtain ⟨qk25, hf⟩ := hf
        refine XS.go (s_ialde rfl (LY.lt L24 (by decide)) (LY.k1292 L24) (inLit (LY.n1292 L24) qk25.1 qk25.2 (by decide)) rfl) ?_
        refine XS.go (s_iconst (v := 1) rfl rfl) ?_
        refine XS.go (s_iadd rfl) ?_
        refine XS.go (s_iast rfl (LY.lt L24 (by decide)) (LY.k1292 L24) (inLit (LY.n1292 L24) qk25.1 qk25.2 (by decide))) ?_
        exact XR.forget (L2 := [some (.ref 1262), some (.int x1), none, none]) ⟨rfl, ⟨rfl, trivial⟩⟩ (kb_m_unionBody_94 hK14 (by simp only [LY_si, LY_sj]; exact L24) hf)
def b_m_unionBody_14 : Nat → Int32 → Int32 → XH → Option (Unit × XH)
  | 0, _, _, _ => none
  | n + 1, x1, x2, h => s_m_unionBody_14 (b_m_unionBody_14 n) x1 x2 h
theorem kb_m_unionBody_14 {l : Launch} {G : XG} {d : Nat} {n : Nat} {x1 : Int32} {x2 : Int32} {h : XH} {r : Unit × XH} (L0 : LY h) (hf : b_m_unionBody_14 n x1 x2 h = some r) : XR l G xEX12_unionBody (d + 3) (14, [some (.ref 1262), some (.int x1), some (.int x2), none], [], h) (fun C => ∃ v, xRet xEX12_unionBody C v ∧ (C.2.2.2 = r.2 ∧ v = none) ∧ LY r.2) := by
  induction n generalizing x1 x2 h with
  | zero => cases hf
  | succ n ih => exact ks_m_unionBody_14 (fun x1 x2 h L0 hf => ih (h := h) (x1 := x1) (x2 := x2) L0 hf) L0 hf
def f_m_unionBody (h : XH) : Option (Unit × XH) := (if 0 ≤ (hi h 1262 41) ∧ (hi h 1262 41) < nI 8 then (b_m_unionBody_14 100000 (hi h 1262 41) 1 (hsi h 1292 (Int32.toNatClampNeg (hi h 1262 41)) 0)) else none)
set_option maxRecDepth 20000 in
theorem kf_m_unionBody {l : Launch} {G : XG} {d : Nat} {h : XH} {r : Unit × XH} (L0 : LY h) (hf : f_m_unionBody h = some r) : XC l G xEX12_unionBody (d + 3) [.ref 1262] h (fun v h2 => (h2 = r.2 ∧ v = none) ∧ LY r.2) := by
  refine XC.virt xvX12_unionBody (Nat.le_of_ble_eq_true rfl) ?_
  unfold f_m_unionBody at hf
  refine XR.norm (L3 := [some (.ref 1262), none, none, none]) rfl ?_
  refine XS.go (s_aloadn rfl rfl rfl) ?_
  refine XS.go (s_getie rfl xf12_260 (LY.lt L0 (by decide)) (LY.k1262 L0) (by decide) rfl rfl) ?_
  refine XS.go (XS.lcl (L3 := [some (.ref 1262), some (.int (hi h 1262 41)), none, none]) (s_istoren rfl rfl (Nat.le_of_ble_eq_true rfl)) rfl) ?_
  refine XS.go (s_aloadn rfl rfl rfl) ?_
  refine XS.go (s_getr rfl xf12_98 (LY.lt L0 (by decide)) (LY.k1262 L0) (by decide) rfl (LY.r1262_42 L0)) ?_
  refine XS.go (s_iloadn rfl rfl rfl) ?_
  refine XS.go (s_iconst (v := 0) rfl rfl) ?_
  replace hf := xi_none hf
  obtain ⟨qk26, hf⟩ := hf
  refine XS.go (s_iast rfl (LY.lt L0 (by decide)) (LY.k1292 L0) (inLit (LY.n1292 L0) qk26.1 qk26.2 (by decide))) ?_
  refine XS.go (s_iconst (v := 1) rfl rfl) ?_
  refine XS.go (XS.lcl (L3 := [some (.ref 1262), some (.int (hi h 1262 41)), some (.int 1), none]) (s_istoren rfl rfl (Nat.le_of_ble_eq_true rfl)) rfl) ?_
  exact XR.forget (L2 := [some (.ref 1262), some (.int (hi h 1262 41)), some (.int 1), none]) ⟨rfl, ⟨rfl, ⟨rfl, trivial⟩⟩⟩ (kb_m_unionBody_14 (by simp only [LY_si, LY_sj]; exact L0) hf)
def b_m_define_166 (x1 : Int32) (y1 : Int32) (y2 : Int32) (h : XH) : Option (Unit × XH) := (if 0 ≤ y1 ∧ y1 < nI 40 then (Option.bind (f_m_take (hsi (hsi h 1272 (Int32.toNatClampNeg y1) y2) 1262 16 ((hi h 1262 16) + 1))) fun r2 => (Option.bind (f_m_sign 123 r2.2) fun r5 => (if ¬ x1 = 11 then (if ¬ x1 = 12 then (Option.bind (f_m_unionBody r5.2) fun r10 => (some ((), r10.2))) else (Option.bind (f_m_tableBody r5.2) fun r13 => (some ((), r13.2)))) else (Option.bind (f_m_structBody r5.2) fun r16 => (some ((), r16.2)))))) else none)
set_option maxRecDepth 20000 in
theorem kb_m_define_166 {l : Launch} {G : XG} {d : Nat} {x1 : Int32} {y1 : Int32} {y2 : Int32} {h : XH} {r : Unit × XH} (L0 : LY h) (hf : b_m_define_166 x1 y1 y2 h = some r) : XR l G xEX12_define (d + 5) (166, [some (.ref 1262), some (.int x1)], [(.int y2), (.int y1), (.ref 1272)], h) (fun C => ∃ v, xRet xEX12_define C v ∧ (C.2.2.2 = r.2 ∧ v = none) ∧ LY r.2) := by
  unfold b_m_define_166 at hf
  replace hf := xi_none hf
  obtain ⟨qk1, hf⟩ := hf
  refine XS.go (s_iast rfl (LY.lt L0 (by decide)) (LY.k1272 L0) (inLit (LY.n1272 L0) qk1.1 qk1.2 (by decide))) ?_
  refine XS.go (s_aloadn rfl rfl rfl) ?_
  refine XS.go (s_dup rfl rfl) ?_
  refine XS.go (s_getie rfl xf12_247 (LY.lt (by simp only [LY_si, LY_sj]; exact L0) (by decide)) (LY.k1262 (by simp only [LY_si, LY_sj]; exact L0)) (by decide) rfl (hi_hsi_na (by decide))) ?_
  refine XS.go (s_iconst (v := 1) rfl rfl) ?_
  refine XS.go (s_iadd rfl) ?_
  refine XS.go (s_puti rfl xf12_247 (LY.lt (by simp only [LY_si, LY_sj]; exact L0) (by decide)) (LY.k1262 (by simp only [LY_si, LY_sj]; exact L0)) (by decide) rfl (Or.inl rfl)) ?_
  refine XS.go (s_aloadn rfl rfl rfl) ?_
  replace hf := xb_some hf
  obtain ⟨r2, e3, hf⟩ := hf
  refine r_callv rfl xvX12_take xm12_240 (kf_m_take (d := d) (by simp only [LY_si, LY_sj]; exact L0) e3) (LY.lt (by simp only [LY_si, LY_sj]; exact L0) (by decide)) (LY.k1262 (by simp only [LY_si, LY_sj]; exact L0)) (by decide) rfl rfl (dl0 (by decide)) (by decide) (Nat.le_of_ble_eq_true rfl) ?_
  rintro _ _ ⟨⟨rfl, rfl⟩, L4⟩
  refine XS.go (s_aloadn rfl rfl rfl) ?_
  refine XS.go (s_bipush (v := 123) rfl rfl) ?_
  replace hf := xb_some hf
  obtain ⟨r5, e6, hf⟩ := hf
  refine r_callv rfl xvX12_sign xm12_282 (kf_m_sign (d := d) L4 e6) (LY.lt L4 (by decide)) (LY.k1262 L4) (by decide) rfl rfl (dl (by decide)) (by decide) (Nat.le_of_ble_eq_true rfl) ?_
  rintro _ _ ⟨⟨rfl, rfl⟩, L7⟩
  refine XS.go (s_iloadn rfl rfl rfl) ?_
  refine XS.go (s_bipush (v := 11) rfl rfl) ?_
  refine r_icmp_ne (tgt := 200) rfl rfl (fun qc8 => ?_) (fun qc8 => ?_)
  · replace hf := xi_pos hf qc8
    refine XS.go (s_iloadn rfl rfl rfl) ?_
    refine XS.go (s_bipush (v := 12) rfl rfl) ?_
    refine r_icmp_ne (tgt := 213) rfl rfl (fun qc9 => ?_) (fun qc9 => ?_)
    · replace hf := xi_pos hf qc9
      refine XS.go (s_aloadn rfl rfl rfl) ?_
      replace hf := xb_some hf
      obtain ⟨r10, e11, hf⟩ := hf
      refine r_callv rfl xvX12_unionBody xm12_298 (kf_m_unionBody (d := d) L7 e11) (LY.lt L7 (by decide)) (LY.k1262 L7) (by decide) rfl rfl (dl (by decide)) (by decide) (Nat.le_of_ble_eq_true rfl) ?_
      rintro _ _ ⟨⟨rfl, rfl⟩, L12⟩
      cases hf
      exact XR.retv rfl rfl (fun hret => ⟨_, hret, ⟨rfl, rfl⟩, L12⟩)
    · replace hf := xi_neg hf qc9
      refine XS.go (s_aloadn rfl rfl rfl) ?_
      replace hf := xb_some hf
      obtain ⟨r13, e14, hf⟩ := hf
      refine r_callv rfl xvX12_tableBody xm12_295 (kf_m_tableBody (d := d) L7 e14) (LY.lt L7 (by decide)) (LY.k1262 L7) (by decide) rfl rfl (dl (by decide)) (by decide) (Nat.le_of_ble_eq_true rfl) ?_
      rintro _ _ ⟨⟨rfl, rfl⟩, L15⟩
      refine XS.go (s_goto (tgt := 217) rfl rfl) ?_
      cases hf
      exact XR.retv rfl rfl (fun hret => ⟨_, hret, ⟨rfl, rfl⟩, L15⟩)
  · replace hf := xi_neg hf qc8
    refine XS.go (s_aloadn rfl rfl rfl) ?_
    replace hf := xb_some hf
    obtain ⟨r16, e17, hf⟩ := hf
    refine r_callv rfl xvX12_structBody xm12_292 (kf_m_structBody (d := d) L7 e17) (LY.lt L7 (by decide)) (LY.k1262 L7) (by decide) rfl rfl (dl (by decide)) (by decide) (Nat.le_of_ble_eq_true rfl) ?_
    rintro _ _ ⟨⟨rfl, rfl⟩, L18⟩
    refine XS.go (s_goto (tgt := 217) rfl rfl) ?_
    cases hf
    exact XR.retv rfl rfl (fun hret => ⟨_, hret, ⟨rfl, rfl⟩, L18⟩)
def b_m_define_127 (x1 : Int32) (y1 : Int32) (y2 : Int32) (h : XH) : Option (Unit × XH) := (if 0 ≤ y1 ∧ y1 < nI 40 then (if ¬ x1 = 11 then (if ¬ x1 = 12 then (b_m_define_166 x1 (hi h 1262 16) (hi h 1262 41) (hsi h 1271 (Int32.toNatClampNeg y1) y2)) else (b_m_define_166 x1 (hi h 1262 16) (hi h 1262 31) (hsi h 1271 (Int32.toNatClampNeg y1) y2))) else (b_m_define_166 x1 (hi h 1262 16) (hi h 1262 20) (hsi h 1271 (Int32.toNatClampNeg y1) y2))) else none)
set_option maxRecDepth 20000 in
theorem kb_m_define_127 {l : Launch} {G : XG} {d : Nat} {x1 : Int32} {y1 : Int32} {y2 : Int32} {h : XH} {r : Unit × XH} (L0 : LY h) (hf : b_m_define_127 x1 y1 y2 h = some r) : XR l G xEX12_define (d + 5) (127, [some (.ref 1262), some (.int x1)], [(.int y2), (.int y1), (.ref 1271)], h) (fun C => ∃ v, xRet xEX12_define C v ∧ (C.2.2.2 = r.2 ∧ v = none) ∧ LY r.2) := by
  unfold b_m_define_127 at hf
  replace hf := xi_none hf
  obtain ⟨qk19, hf⟩ := hf
  refine XS.go (s_iast rfl (LY.lt L0 (by decide)) (LY.k1271 L0) (inLit (LY.n1271 L0) qk19.1 qk19.2 (by decide))) ?_
  refine XS.go (s_aloadn rfl rfl rfl) ?_
  refine XS.go (s_getr rfl xf12_37 (LY.lt (by simp only [LY_si, LY_sj]; exact L0) (by decide)) (LY.k1262 (by simp only [LY_si, LY_sj]; exact L0)) (by decide) rfl (LY.r1262_19 (by simp only [LY_si, LY_sj]; exact L0))) ?_
  refine XS.go (s_aloadn rfl rfl rfl) ?_
  refine XS.go (s_getie rfl xf12_247 (LY.lt (by simp only [LY_si, LY_sj]; exact L0) (by decide)) (LY.k1262 (by simp only [LY_si, LY_sj]; exact L0)) (by decide) rfl (hi_hsi_na (by decide))) ?_
  refine XS.go (s_iloadn rfl rfl rfl) ?_
  refine XS.go (s_bipush (v := 11) rfl rfl) ?_
  refine r_icmp_ne (tgt := 149) rfl rfl (fun qc20 => ?_) (fun qc20 => ?_)
  · replace hf := xi_pos hf qc20
    refine XS.go (s_iloadn rfl rfl rfl) ?_
    refine XS.go (s_bipush (v := 12) rfl rfl) ?_
    refine r_icmp_ne (tgt := 162) rfl rfl (fun qc21 => ?_) (fun qc21 => ?_)
    · replace hf := xi_pos hf qc21
      refine XS.go (s_aloadn rfl rfl rfl) ?_
      refine XS.go (s_getie rfl xf12_260 (LY.lt (by simp only [LY_si, LY_sj]; exact L0) (by decide)) (LY.k1262 (by simp only [LY_si, LY_sj]; exact L0)) (by decide) rfl (hi_hsi_na (by decide))) ?_
      exact XR.forget (L2 := [some (.ref 1262), some (.int x1)]) ⟨rfl, ⟨rfl, trivial⟩⟩ (kb_m_define_166 (by simp only [LY_si, LY_sj]; exact L0) hf)
    · replace hf := xi_neg hf qc21
      refine XS.go (s_aloadn rfl rfl rfl) ?_
      refine XS.go (s_getie rfl xf12_257 (LY.lt (by simp only [LY_si, LY_sj]; exact L0) (by decide)) (LY.k1262 (by simp only [LY_si, LY_sj]; exact L0)) (by decide) rfl (hi_hsi_na (by decide))) ?_
      refine XS.go (s_goto (tgt := 166) rfl rfl) ?_
      exact XR.forget (L2 := [some (.ref 1262), some (.int x1)]) ⟨rfl, ⟨rfl, trivial⟩⟩ (kb_m_define_166 (by simp only [LY_si, LY_sj]; exact L0) hf)
  · replace hf := xi_neg hf qc20
    refine XS.go (s_aloadn rfl rfl rfl) ?_
    refine XS.go (s_getie rfl xf12_254 (LY.lt (by simp only [LY_si, LY_sj]; exact L0) (by decide)) (LY.k1262 (by simp only [LY_si, LY_sj]; exact L0)) (by decide) rfl (hi_hsi_na (by decide))) ?_
    refine XS.go (s_goto (tgt := 166) rfl rfl) ?_
    exact XR.forget (L2 := [some (.ref 1262), some (.int x1)]) ⟨rfl, ⟨rfl, trivial⟩⟩ (kb_m_define_166 (by simp only [LY_si, LY_sj]; exact L0) hf)
def b_m_define_85 (x1 : Int32) (h : XH) : Option (Unit × XH) := (if 0 ≤ (hi h 1262 16) ∧ (hi h 1262 16) < nI 40 then (if ¬ x1 = 11 then (if ¬ x1 = 12 then (b_m_define_127 x1 (hi h 1262 16) 4 (hsi h 1270 (Int32.toNatClampNeg (hi h 1262 16)) (hi h 1262 13))) else (b_m_define_127 x1 (hi h 1262 16) 3 (hsi h 1270 (Int32.toNatClampNeg (hi h 1262 16)) (hi h 1262 13)))) else (b_m_define_127 x1 (hi h 1262 16) 2 (hsi h 1270 (Int32.toNatClampNeg (hi h 1262 16)) (hi h 1262 13)))) else none)
set_option maxRecDepth 20000 in
theorem kb_m_define_85 {l : Launch} {G : XG} {d : Nat} {x1 : Int32} {h : XH} {r : Unit × XH} (L0 : LY h) (hf : b_m_define_85 x1 h = some r) : XR l G xEX12_define (d + 5) (85, [some (.ref 1262), some (.int x1)], [], h) (fun C => ∃ v, xRet xEX12_define C v ∧ (C.2.2.2 = r.2 ∧ v = none) ∧ LY r.2) := by
  unfold b_m_define_85 at hf
  refine XS.go (s_aloadn rfl rfl rfl) ?_
  refine XS.go (s_getr rfl xf12_31 (LY.lt L0 (by decide)) (LY.k1262 L0) (by decide) rfl (LY.r1262_17 L0)) ?_
  refine XS.go (s_aloadn rfl rfl rfl) ?_
  refine XS.go (s_getie rfl xf12_247 (LY.lt L0 (by decide)) (LY.k1262 L0) (by decide) rfl rfl) ?_
  refine XS.go (s_aloadn rfl rfl rfl) ?_
  refine XS.go (s_getie rfl xf12_224 (LY.lt L0 (by decide)) (LY.k1262 L0) (by decide) rfl rfl) ?_
  replace hf := xi_none hf
  obtain ⟨qk22, hf⟩ := hf
  refine XS.go (s_iast rfl (LY.lt L0 (by decide)) (LY.k1270 L0) (inLit (LY.n1270 L0) qk22.1 qk22.2 (by decide))) ?_
  refine XS.go (s_aloadn rfl rfl rfl) ?_
  refine XS.go (s_getr rfl xf12_34 (LY.lt (by simp only [LY_si, LY_sj]; exact L0) (by decide)) (LY.k1262 (by simp only [LY_si, LY_sj]; exact L0)) (by decide) rfl (LY.r1262_18 (by simp only [LY_si, LY_sj]; exact L0))) ?_
  refine XS.go (s_aloadn rfl rfl rfl) ?_
  refine XS.go (s_getie rfl xf12_247 (LY.lt (by simp only [LY_si, LY_sj]; exact L0) (by decide)) (LY.k1262 (by simp only [LY_si, LY_sj]; exact L0)) (by decide) rfl (hi_hsi_na (by decide))) ?_
  refine XS.go (s_iloadn rfl rfl rfl) ?_
  refine XS.go (s_bipush (v := 11) rfl rfl) ?_
  refine r_icmp_ne (tgt := 116) rfl rfl (fun qc23 => ?_) (fun qc23 => ?_)
  · replace hf := xi_pos hf qc23
    refine XS.go (s_iloadn rfl rfl rfl) ?_
    refine XS.go (s_bipush (v := 12) rfl rfl) ?_
    refine r_icmp_ne (tgt := 126) rfl rfl (fun qc24 => ?_) (fun qc24 => ?_)
    · replace hf := xi_pos hf qc24
      refine XS.go (s_iconst (v := 4) rfl rfl) ?_
      exact XR.forget (L2 := [some (.ref 1262), some (.int x1)]) ⟨rfl, ⟨rfl, trivial⟩⟩ (kb_m_define_127 (by simp only [LY_si, LY_sj]; exact L0) hf)
    · replace hf := xi_neg hf qc24
      refine XS.go (s_iconst (v := 3) rfl rfl) ?_
      refine XS.go (s_goto (tgt := 127) rfl rfl) ?_
      exact XR.forget (L2 := [some (.ref 1262), some (.int x1)]) ⟨rfl, ⟨rfl, trivial⟩⟩ (kb_m_define_127 (by simp only [LY_si, LY_sj]; exact L0) hf)
  · replace hf := xi_neg hf qc23
    refine XS.go (s_iconst (v := 2) rfl rfl) ?_
    refine XS.go (s_goto (tgt := 127) rfl rfl) ?_
    exact XR.forget (L2 := [some (.ref 1262), some (.int x1)]) ⟨rfl, ⟨rfl, trivial⟩⟩ (kb_m_define_127 (by simp only [LY_si, LY_sj]; exact L0) hf)
def b_m_define_79 (h : XH) : Option (Unit × XH) := (Option.bind (f_m_flaw 4 h) fun r25 => (some ((), r25.2)))
set_option maxRecDepth 20000 in
theorem kb_m_define_79 {l : Launch} {G : XG} {d : Nat} {h : XH} {r : Unit × XH} (L0 : LY h) (hf : b_m_define_79 h = some r) : XR l G xEX12_define (d + 5) (79, [some (.ref 1262), none], [], h) (fun C => ∃ v, xRet xEX12_define C v ∧ (C.2.2.2 = r.2 ∧ v = none) ∧ LY r.2) := by
  unfold b_m_define_79 at hf
  refine XS.go (s_aloadn rfl rfl rfl) ?_
  refine XS.go (s_iconst (v := 4) rfl rfl) ?_
  replace hf := xb_some hf
  obtain ⟨r25, e26, hf⟩ := hf
  refine r_callv rfl xvX12_flaw xm12_230 (kf_m_flaw (d := d) L0 e26) (LY.lt L0 (by decide)) (LY.k1262 L0) (by decide) rfl rfl (dl0 (by decide)) (by decide) (Nat.le_of_ble_eq_true rfl) ?_
  rintro _ _ ⟨⟨rfl, rfl⟩, L27⟩
  cases hf
  exact XR.retv rfl rfl (fun hret => ⟨_, hret, ⟨rfl, rfl⟩, L27⟩)
def f_m_define (a0 : Int32) (h : XH) : Option (Unit × XH) := (Option.bind (f_m_take h) fun r28 => (Option.bind (f_m_isName r28.2) fun r31 => (if ¬ r31.1 = 0 then (Option.bind (f_m_definition (hi r31.2 1262 13) r31.2) fun r35 => (if r35.1 = (-1) then (if ¬ a0 = 11 then (if ¬ a0 = 12 then (if ¬ (hi r35.2 1262 41) = 8 then (b_m_define_85 a0 r35.2) else (b_m_define_79 r35.2)) else (if ¬ (hi r35.2 1262 31) = 16 then (b_m_define_85 a0 r35.2) else (b_m_define_79 r35.2))) else (if ¬ (hi r35.2 1262 20) = 12 then (b_m_define_85 a0 r35.2) else (b_m_define_79 r35.2))) else (Option.bind (f_m_flaw 3 r35.2) fun r44 => (some ((), r44.2))))) else (Option.bind (f_m_misfit r31.2) fun r47 => (some ((), r47.2))))))
set_option maxRecDepth 20000 in
theorem kf_m_define {l : Launch} {G : XG} {d : Nat} {a0 : Int32} {h : XH} {r : Unit × XH} (L0 : LY h) (hf : f_m_define a0 h = some r) : XC l G xEX12_define (d + 5) [.ref 1262, .int a0] h (fun v h2 => (h2 = r.2 ∧ v = none) ∧ LY r.2) := by
  refine XC.virt xvX12_define (Nat.le_of_ble_eq_true rfl) ?_
  unfold f_m_define at hf
  refine XR.norm (L3 := [some (.ref 1262), some (.int a0)]) rfl ?_
  refine XS.go (s_aloadn rfl rfl rfl) ?_
  replace hf := xb_some hf
  obtain ⟨r28, e29, hf⟩ := hf
  refine r_callv rfl xvX12_take xm12_240 (kf_m_take (d := d) L0 e29) (LY.lt L0 (by decide)) (LY.k1262 L0) (by decide) rfl rfl (dl0 (by decide)) (by decide) (Nat.le_of_ble_eq_true rfl) ?_
  rintro _ _ ⟨⟨rfl, rfl⟩, L30⟩
  refine XS.go (s_aloadn rfl rfl rfl) ?_
  replace hf := xb_some hf
  obtain ⟨r31, e32, hf⟩ := hf
  refine r_callv rfl xvX12_isName xm12_243 (kf_m_isName (d := d) L30 e32) (LY.lt L30 (by decide)) (LY.k1262 L30) (by decide) rfl rfl (dl0 (by decide)) (by decide) (Nat.le_of_ble_eq_true rfl) ?_
  rintro _ _ ⟨⟨rfl, rfl⟩, L33⟩
  refine r_if_ne (tgt := 16) rfl rfl (fun qc34 => ?_) (fun qc34 => ?_)
  · replace hf := xi_pos hf qc34
    refine XS.go (s_aloadn rfl rfl rfl) ?_
    refine XS.go (s_aloadn rfl rfl rfl) ?_
    refine XS.go (s_getie rfl xf12_224 (LY.lt L33 (by decide)) (LY.k1262 L33) (by decide) rfl rfl) ?_
    replace hf := xb_some hf
    obtain ⟨r35, e36, hf⟩ := hf
    refine r_callv rfl xvX12_definition xm12_289 (kf_m_definition (d := d) L33 e36) (LY.lt L33 (by decide)) (LY.k1262 L33) (by decide) rfl rfl (dl (by decide)) (by decide) (Nat.le_of_ble_eq_true rfl) ?_
    rintro _ _ ⟨⟨rfl, rfl⟩, L37⟩
    refine XS.go (s_iconst (v := (-1)) rfl rfl) ?_
    refine r_icmp_eq (tgt := 34) rfl rfl (fun qc38 => ?_) (fun qc38 => ?_)
    · replace hf := xi_pos hf qc38
      refine XS.go (s_iloadn rfl rfl rfl) ?_
      refine XS.go (s_bipush (v := 11) rfl rfl) ?_
      refine r_icmp_ne (tgt := 52) rfl rfl (fun qc39 => ?_) (fun qc39 => ?_)
      · replace hf := xi_pos hf qc39
        refine XS.go (s_iloadn rfl rfl rfl) ?_
        refine XS.go (s_bipush (v := 12) rfl rfl) ?_
        refine r_icmp_ne (tgt := 70) rfl rfl (fun qc40 => ?_) (fun qc40 => ?_)
        · replace hf := xi_pos hf qc40
          refine XS.go (s_aloadn rfl rfl rfl) ?_
          refine XS.go (s_getie rfl xf12_260 (LY.lt L37 (by decide)) (LY.k1262 L37) (by decide) rfl rfl) ?_
          refine XS.go (s_bipush (v := 8) rfl rfl) ?_
          refine r_icmp_ne (tgt := 85) rfl rfl (fun qc41 => ?_) (fun qc41 => ?_)
          · replace hf := xi_pos hf qc41
            exact XR.forget (L2 := [some (.ref 1262), some (.int a0)]) ⟨rfl, ⟨rfl, trivial⟩⟩ (kb_m_define_85 L37 hf)
          · replace hf := xi_neg hf qc41
            exact XR.forget (L2 := [some (.ref 1262), none]) ⟨rfl, trivial⟩ (kb_m_define_79 L37 hf)
        · replace hf := xi_neg hf qc40
          refine XS.go (s_aloadn rfl rfl rfl) ?_
          refine XS.go (s_getie rfl xf12_257 (LY.lt L37 (by decide)) (LY.k1262 L37) (by decide) rfl rfl) ?_
          refine XS.go (s_bipush (v := 16) rfl rfl) ?_
          refine r_icmp_ne (tgt := 85) rfl rfl (fun qc42 => ?_) (fun qc42 => ?_)
          · replace hf := xi_pos hf qc42
            exact XR.forget (L2 := [some (.ref 1262), some (.int a0)]) ⟨rfl, ⟨rfl, trivial⟩⟩ (kb_m_define_85 L37 hf)
          · replace hf := xi_neg hf qc42
            refine XS.go (s_goto (tgt := 79) rfl rfl) ?_
            exact XR.forget (L2 := [some (.ref 1262), none]) ⟨rfl, trivial⟩ (kb_m_define_79 L37 hf)
      · replace hf := xi_neg hf qc39
        refine XS.go (s_aloadn rfl rfl rfl) ?_
        refine XS.go (s_getie rfl xf12_254 (LY.lt L37 (by decide)) (LY.k1262 L37) (by decide) rfl rfl) ?_
        refine XS.go (s_bipush (v := 12) rfl rfl) ?_
        refine r_icmp_ne (tgt := 85) rfl rfl (fun qc43 => ?_) (fun qc43 => ?_)
        · replace hf := xi_pos hf qc43
          exact XR.forget (L2 := [some (.ref 1262), some (.int a0)]) ⟨rfl, ⟨rfl, trivial⟩⟩ (kb_m_define_85 L37 hf)
        · replace hf := xi_neg hf qc43
          refine XS.go (s_goto (tgt := 79) rfl rfl) ?_
          exact XR.forget (L2 := [some (.ref 1262), none]) ⟨rfl, trivial⟩ (kb_m_define_79 L37 hf)
    · replace hf := xi_neg hf qc38
      refine XS.go (s_aloadn rfl rfl rfl) ?_
      refine XS.go (s_iconst (v := 3) rfl rfl) ?_
      replace hf := xb_some hf
      obtain ⟨r44, e45, hf⟩ := hf
      refine r_callv rfl xvX12_flaw xm12_230 (kf_m_flaw (d := d) L37 e45) (LY.lt L37 (by decide)) (LY.k1262 L37) (by decide) rfl rfl (dl0 (by decide)) (by decide) (Nat.le_of_ble_eq_true rfl) ?_
      rintro _ _ ⟨⟨rfl, rfl⟩, L46⟩
      cases hf
      exact XR.retv rfl rfl (fun hret => ⟨_, hret, ⟨rfl, rfl⟩, L46⟩)
  · replace hf := xi_neg hf qc34
    refine XS.go (s_aloadn rfl rfl rfl) ?_
    replace hf := xb_some hf
    obtain ⟨r47, e48, hf⟩ := hf
    refine r_callv rfl xvX12_misfit xm12_237 (kf_m_misfit (d := d) L33 e48) (LY.lt L33 (by decide)) (LY.k1262 L33) (by decide) rfl rfl (dl (by decide)) (by decide) (Nat.le_of_ble_eq_true rfl) ?_
    rintro _ _ ⟨⟨rfl, rfl⟩, L49⟩
    cases hf
    exact XR.retv rfl rfl (fun hret => ⟨_, hret, ⟨rfl, rfl⟩, L49⟩)
def b_m_resolve_279 (K226 : Int32 → XH → Option (Unit × XH)) (K241 : Int32 → Int32 → Int32 → XH → Option (Unit × XH)) (x1 : Int32) (x3 : Int32) (y0 : Int32) (y1 : Int32) (h : XH) : Option (Unit × XH) := (K241 x1 (y0 + y1) (x3 + 1) h)
set_option maxRecDepth 20000 in
theorem kb_m_resolve_279 {l : Launch} {G : XG} {d : Nat} {K226 : Int32 → XH → Option (Unit × XH)} {K241 : Int32 → Int32 → Int32 → XH → Option (Unit × XH)} {x1 : Int32} {x3 : Int32} {y0 : Int32} {y1 : Int32} {h : XH} {r : Unit × XH} (hK226 : ∀ (x1 : Int32) (h : XH), LY h → K226 x1 h = some r → XR l G xEX12_resolve (d + 2) (226, [some (.ref 1262), some (.int x1), none, none, none], [], h) (fun C => ∃ v, xRet xEX12_resolve C v ∧ (C.2.2.2 = r.2 ∧ v = none) ∧ LY r.2)) (hK241 : ∀ (x1 : Int32) (x2 : Int32) (x3 : Int32) (h : XH), LY h → K241 x1 x2 x3 h = some r → XR l G xEX12_resolve (d + 2) (241, [some (.ref 1262), some (.int x1), some (.int x2), some (.int x3), none], [], h) (fun C => ∃ v, xRet xEX12_resolve C v ∧ (C.2.2.2 = r.2 ∧ v = none) ∧ LY r.2)) (L0 : LY h) (hf : b_m_resolve_279 K226 K241 x1 x3 y0 y1 h = some r) : XR l G xEX12_resolve (d + 2) (279, [some (.ref 1262), some (.int x1), none, some (.int x3), none], [(.int y1), (.int y0)], h) (fun C => ∃ v, xRet xEX12_resolve C v ∧ (C.2.2.2 = r.2 ∧ v = none) ∧ LY r.2) := by
  unfold b_m_resolve_279 at hf
  refine XS.go (s_iadd rfl) ?_
  refine XS.go (XS.lcl (L3 := [some (.ref 1262), some (.int x1), some (.int (y0 + y1)), some (.int x3), none]) (s_istoren rfl rfl (Nat.le_of_ble_eq_true rfl)) rfl) ?_
  refine XS.go (XS.lcl (L3 := [some (.ref 1262), some (.int x1), some (.int (y0 + y1)), some (.int (x3 + 1)), none]) (s_inc rfl rfl (Nat.le_of_ble_eq_true rfl)) rfl) ?_
  refine XS.go (s_goto (tgt := 241) rfl rfl) ?_
  exact XR.forget (L2 := [some (.ref 1262), some (.int x1), some (.int (y0 + y1)), some (.int (x3 + 1)), none]) ⟨rfl, ⟨rfl, ⟨rfl, ⟨rfl, trivial⟩⟩⟩⟩ (hK241 x1 (y0 + y1) (x3 + 1) _ L0 hf)
def s_m_resolve_241 (K226 : Int32 → XH → Option (Unit × XH)) (K241 : Int32 → Int32 → Int32 → XH → Option (Unit × XH)) (x1 : Int32) (x2 : Int32) (x3 : Int32) (h : XH) : Option (Unit × XH) := (if 0 ≤ x1 ∧ x1 < nI 16 then (if ((16 * x1) + (hi h 1283 (Int32.toNatClampNeg x1))) ≤ x3 then (K226 (x1 + 1) (hsi h 1284 (Int32.toNatClampNeg x1) x2)) else (if 0 ≤ x3 ∧ x3 < nI 256 then (if ¬ (hi h 1286 (Int32.toNatClampNeg x3)) = 4 then (b_m_resolve_279 K226 K241 x1 x3 x2 1 (hsi h 1289 (Int32.toNatClampNeg x3) x2)) else (b_m_resolve_279 K226 K241 x1 x3 x2 2 (hsi h 1289 (Int32.toNatClampNeg x3) x2))) else none)) else none)
set_option maxRecDepth 20000 in
theorem ks_m_resolve_241 {l : Launch} {G : XG} {d : Nat} {K226 : Int32 → XH → Option (Unit × XH)} {K241 : Int32 → Int32 → Int32 → XH → Option (Unit × XH)} {x1 : Int32} {x2 : Int32} {x3 : Int32} {h : XH} {r : Unit × XH} (hK226 : ∀ (x1 : Int32) (h : XH), LY h → K226 x1 h = some r → XR l G xEX12_resolve (d + 2) (226, [some (.ref 1262), some (.int x1), none, none, none], [], h) (fun C => ∃ v, xRet xEX12_resolve C v ∧ (C.2.2.2 = r.2 ∧ v = none) ∧ LY r.2)) (hK241 : ∀ (x1 : Int32) (x2 : Int32) (x3 : Int32) (h : XH), LY h → K241 x1 x2 x3 h = some r → XR l G xEX12_resolve (d + 2) (241, [some (.ref 1262), some (.int x1), some (.int x2), some (.int x3), none], [], h) (fun C => ∃ v, xRet xEX12_resolve C v ∧ (C.2.2.2 = r.2 ∧ v = none) ∧ LY r.2)) (L0 : LY h) (hf : s_m_resolve_241 K226 K241 x1 x2 x3 h = some r) : XR l G xEX12_resolve (d + 2) (241, [some (.ref 1262), some (.int x1), some (.int x2), some (.int x3), none], [], h) (fun C => ∃ v, xRet xEX12_resolve C v ∧ (C.2.2.2 = r.2 ∧ v = none) ∧ LY r.2) := by
  unfold s_m_resolve_241 at hf
  refine XS.go (s_iloadn rfl rfl rfl) ?_
  refine XS.go (s_bipush (v := 16) rfl rfl) ?_
  refine XS.go (s_iloadn rfl rfl rfl) ?_
  refine XS.go (s_imul rfl) ?_
  refine XS.go (s_aloadn rfl rfl rfl) ?_
  refine XS.go (s_getr rfl xf12_70 (LY.lt L0 (by decide)) (LY.k1262 L0) (by decide) rfl (LY.r1262_32 L0)) ?_
  refine XS.go (s_iloadn rfl rfl rfl) ?_
  replace hf := xi_none hf
  obtain ⟨qk1, hf⟩ := hf
  refine XS.go (s_ialde rfl (LY.lt L0 (by decide)) (LY.k1283 L0) (inLit (LY.n1283 L0) qk1.1 qk1.2 (by decide)) rfl) ?_
  refine XS.go (s_iadd rfl) ?_
  refine r_icmp_ge (tgt := 287) rfl rfl (fun qc2 => ?_) (fun qc2 => ?_)
  · replace hf := xi_pos hf qc2
    refine XS.go (s_aloadn rfl rfl rfl) ?_
    refine XS.go (s_getr rfl xf12_73 (LY.lt L0 (by decide)) (LY.k1262 L0) (by decide) rfl (LY.r1262_33 L0)) ?_
    refine XS.go (s_iloadn rfl rfl rfl) ?_
    refine XS.go (s_iloadn rfl rfl rfl) ?_
    refine XS.go (s_iast rfl (LY.lt L0 (by decide)) (LY.k1284 L0) (inLit (LY.n1284 L0) qk1.1 qk1.2 (by decide))) ?_
    refine XS.go (XS.lcl (L3 := [some (.ref 1262), some (.int (x1 + 1)), some (.int x2), some (.int x3), none]) (s_inc rfl rfl (Nat.le_of_ble_eq_true rfl)) rfl) ?_
    refine XS.go (s_goto (tgt := 226) rfl rfl) ?_
    exact XR.forget (L2 := [some (.ref 1262), some (.int (x1 + 1)), none, none, none]) ⟨rfl, ⟨rfl, trivial⟩⟩ (hK226 (x1 + 1) _ (by simp only [LY_si, LY_sj]; exact L0) hf)
  · replace hf := xi_neg hf qc2
    refine XS.go (s_aloadn rfl rfl rfl) ?_
    refine XS.go (s_getr rfl xf12_88 (LY.lt L0 (by decide)) (LY.k1262 L0) (by decide) rfl (LY.r1262_38 L0)) ?_
    refine XS.go (s_iloadn rfl rfl rfl) ?_
    refine XS.go (s_iloadn rfl rfl rfl) ?_
    replace hf := xi_none hf
    obtain ⟨qk3, hf⟩ := hf
    refine XS.go (s_iast rfl (LY.lt L0 (by decide)) (LY.k1289 L0) (inLit (LY.n1289 L0) qk3.1 qk3.2 (by decide))) ?_
    refine XS.go (s_iloadn rfl rfl rfl) ?_
    refine XS.go (s_aloadn rfl rfl rfl) ?_
    refine XS.go (s_getr rfl xf12_79 (LY.lt (by simp only [LY_si, LY_sj]; exact L0) (by decide)) (LY.k1262 (by simp only [LY_si, LY_sj]; exact L0)) (by decide) rfl (LY.r1262_35 (by simp only [LY_si, LY_sj]; exact L0))) ?_
    refine XS.go (s_iloadn rfl rfl rfl) ?_
    refine XS.go (s_ialde rfl (LY.lt (by simp only [LY_si, LY_sj]; exact L0) (by decide)) (LY.k1286 (by simp only [LY_si, LY_sj]; exact L0)) (inLit (LY.n1286 (by simp only [LY_si, LY_sj]; exact L0)) qk3.1 qk3.2 (by decide)) (hi_hsi_na (by decide))) ?_
    refine XS.go (s_iconst (v := 4) rfl rfl) ?_
    refine r_icmp_ne (tgt := 278) rfl rfl (fun qc4 => ?_) (fun qc4 => ?_)
    · replace hf := xi_pos hf qc4
      refine XS.go (s_iconst (v := 1) rfl rfl) ?_
      exact XR.forget (L2 := [some (.ref 1262), some (.int x1), none, some (.int x3), none]) ⟨rfl, ⟨rfl, ⟨rfl, trivial⟩⟩⟩ (kb_m_resolve_279 hK226 hK241 (by simp only [LY_si, LY_sj]; exact L0) hf)
    · replace hf := xi_neg hf qc4
      refine XS.go (s_iconst (v := 2) rfl rfl) ?_
      refine XS.go (s_goto (tgt := 279) rfl rfl) ?_
      exact XR.forget (L2 := [some (.ref 1262), some (.int x1), none, some (.int x3), none]) ⟨rfl, ⟨rfl, ⟨rfl, trivial⟩⟩⟩ (kb_m_resolve_279 hK226 hK241 (by simp only [LY_si, LY_sj]; exact L0) hf)
def b_m_resolve_241 (K226 : Int32 → XH → Option (Unit × XH)) : Nat → Int32 → Int32 → Int32 → XH → Option (Unit × XH)
  | 0, _, _, _, _ => none
  | n + 1, x1, x2, x3, h => s_m_resolve_241 K226 (b_m_resolve_241 K226 n) x1 x2 x3 h
theorem kb_m_resolve_241 {l : Launch} {G : XG} {d : Nat} {K226 : Int32 → XH → Option (Unit × XH)} {n : Nat} {x1 : Int32} {x2 : Int32} {x3 : Int32} {h : XH} {r : Unit × XH} (hK226 : ∀ (x1 : Int32) (h : XH), LY h → K226 x1 h = some r → XR l G xEX12_resolve (d + 2) (226, [some (.ref 1262), some (.int x1), none, none, none], [], h) (fun C => ∃ v, xRet xEX12_resolve C v ∧ (C.2.2.2 = r.2 ∧ v = none) ∧ LY r.2)) (L0 : LY h) (hf : b_m_resolve_241 K226 n x1 x2 x3 h = some r) : XR l G xEX12_resolve (d + 2) (241, [some (.ref 1262), some (.int x1), some (.int x2), some (.int x3), none], [], h) (fun C => ∃ v, xRet xEX12_resolve C v ∧ (C.2.2.2 = r.2 ∧ v = none) ∧ LY r.2) := by
  induction n generalizing x1 x2 x3 h with
  | zero => cases hf
  | succ n ih => exact ks_m_resolve_241 hK226 (fun x1 x2 x3 h L0 hf => ih (h := h) (x1 := x1) (x2 := x2) (x3 := x3) L0 hf) L0 hf
def s_m_resolve_226 (K226 : Int32 → XH → Option (Unit × XH)) (x1 : Int32) (h : XH) : Option (Unit × XH) := (if (hi h 1262 31) ≤ x1 then (some ((), h)) else (b_m_resolve_241 K226 100000 x1 0 (16 * x1) h))
set_option maxRecDepth 20000 in
theorem ks_m_resolve_226 {l : Launch} {G : XG} {d : Nat} {K226 : Int32 → XH → Option (Unit × XH)} {x1 : Int32} {h : XH} {r : Unit × XH} (hK226 : ∀ (x1 : Int32) (h : XH), LY h → K226 x1 h = some r → XR l G xEX12_resolve (d + 2) (226, [some (.ref 1262), some (.int x1), none, none, none], [], h) (fun C => ∃ v, xRet xEX12_resolve C v ∧ (C.2.2.2 = r.2 ∧ v = none) ∧ LY r.2)) (L0 : LY h) (hf : s_m_resolve_226 K226 x1 h = some r) : XR l G xEX12_resolve (d + 2) (226, [some (.ref 1262), some (.int x1), none, none, none], [], h) (fun C => ∃ v, xRet xEX12_resolve C v ∧ (C.2.2.2 = r.2 ∧ v = none) ∧ LY r.2) := by
  unfold s_m_resolve_226 at hf
  refine XS.go (s_iloadn rfl rfl rfl) ?_
  refine XS.go (s_aloadn rfl rfl rfl) ?_
  refine XS.go (s_getie rfl xf12_257 (LY.lt L0 (by decide)) (LY.k1262 L0) (by decide) rfl rfl) ?_
  refine r_icmp_ge (tgt := 300) rfl rfl (fun qc5 => ?_) (fun qc5 => ?_)
  · replace hf := xi_pos hf qc5
    cases hf
    exact XR.retv rfl rfl (fun hret => ⟨_, hret, ⟨rfl, rfl⟩, L0⟩)
  · replace hf := xi_neg hf qc5
    refine XS.go (s_iconst (v := 0) rfl rfl) ?_
    refine XS.go (XS.lcl (L3 := [some (.ref 1262), some (.int x1), some (.int 0), none, none]) (s_istoren rfl rfl (Nat.le_of_ble_eq_true rfl)) rfl) ?_
    refine XS.go (s_bipush (v := 16) rfl rfl) ?_
    refine XS.go (s_iloadn rfl rfl rfl) ?_
    refine XS.go (s_imul rfl) ?_
    refine XS.go (XS.lcl (L3 := [some (.ref 1262), some (.int x1), some (.int 0), some (.int (16 * x1)), none]) (s_istoren rfl rfl (Nat.le_of_ble_eq_true rfl)) rfl) ?_
    exact XR.forget (L2 := [some (.ref 1262), some (.int x1), some (.int 0), some (.int (16 * x1)), none]) ⟨rfl, ⟨rfl, ⟨rfl, ⟨rfl, trivial⟩⟩⟩⟩ (kb_m_resolve_241 hK226 L0 hf)
def b_m_resolve_226 : Nat → Int32 → XH → Option (Unit × XH)
  | 0, _, _ => none
  | n + 1, x1, h => s_m_resolve_226 (b_m_resolve_226 n) x1 h
theorem kb_m_resolve_226 {l : Launch} {G : XG} {d : Nat} {n : Nat} {x1 : Int32} {h : XH} {r : Unit × XH} (L0 : LY h) (hf : b_m_resolve_226 n x1 h = some r) : XR l G xEX12_resolve (d + 2) (226, [some (.ref 1262), some (.int x1), none, none, none], [], h) (fun C => ∃ v, xRet xEX12_resolve C v ∧ (C.2.2.2 = r.2 ∧ v = none) ∧ LY r.2) := by
  induction n generalizing x1 h with
  | zero => cases hf
  | succ n ih => exact ks_m_resolve_226 (fun x1 h L0 hf => ih (h := h) (x1 := x1) L0 hf) L0 hf
def b_m_resolve_224 (h : XH) : Option (Unit × XH) := (b_m_resolve_226 100000 0 h)
set_option maxRecDepth 20000 in
theorem kb_m_resolve_224 {l : Launch} {G : XG} {d : Nat} {h : XH} {r : Unit × XH} (L0 : LY h) (hf : b_m_resolve_224 h = some r) : XR l G xEX12_resolve (d + 2) (224, [some (.ref 1262), none, none, none, none], [], h) (fun C => ∃ v, xRet xEX12_resolve C v ∧ (C.2.2.2 = r.2 ∧ v = none) ∧ LY r.2) := by
  unfold b_m_resolve_224 at hf
  refine XS.go (s_iconst (v := 0) rfl rfl) ?_
  refine XS.go (XS.lcl (L3 := [some (.ref 1262), some (.int 0), none, none, none]) (s_istoren rfl rfl (Nat.le_of_ble_eq_true rfl)) rfl) ?_
  exact XR.forget (L2 := [some (.ref 1262), some (.int 0), none, none, none]) ⟨rfl, ⟨rfl, trivial⟩⟩ (kb_m_resolve_226 L0 hf)
def b_m_resolve_218 (K2 : Int32 → XH → Option (Unit × XH)) (x1 : Int32) (h : XH) : Option (Unit × XH) := (K2 (x1 + 1) h)
set_option maxRecDepth 20000 in
theorem kb_m_resolve_218 {l : Launch} {G : XG} {d : Nat} {K2 : Int32 → XH → Option (Unit × XH)} {x1 : Int32} {h : XH} {r : Unit × XH} (hK2 : ∀ (x1 : Int32) (h : XH), LY h → K2 x1 h = some r → XR l G xEX12_resolve (d + 2) (2, [some (.ref 1262), some (.int x1), none, none, none], [], h) (fun C => ∃ v, xRet xEX12_resolve C v ∧ (C.2.2.2 = r.2 ∧ v = none) ∧ LY r.2)) (L0 : LY h) (hf : b_m_resolve_218 K2 x1 h = some r) : XR l G xEX12_resolve (d + 2) (218, [some (.ref 1262), some (.int x1), none, none, none], [], h) (fun C => ∃ v, xRet xEX12_resolve C v ∧ (C.2.2.2 = r.2 ∧ v = none) ∧ LY r.2) := by
  unfold b_m_resolve_218 at hf
  refine XS.go (XS.lcl (L3 := [some (.ref 1262), some (.int (x1 + 1)), none, none, none]) (s_inc rfl rfl (Nat.le_of_ble_eq_true rfl)) rfl) ?_
  refine XS.go (s_goto (tgt := 2) rfl rfl) ?_
  exact XR.forget (L2 := [some (.ref 1262), some (.int (x1 + 1)), none, none, none]) ⟨rfl, ⟨rfl, trivial⟩⟩ (hK2 (x1 + 1) _ L0 hf)
def b_m_resolve_77 (K2 : Int32 → XH → Option (Unit × XH)) (x1 : Int32) (x2 : Int32) (y0 : Int32) (h : XH) : Option (Unit × XH) := (if ¬ y0 = 0 then (if 0 ≤ x1 ∧ x1 < nI 400 then (if ¬ (hi h 1296 (Int32.toNatClampNeg x1)) = 2 then (if 0 ≤ x2 ∧ x2 < nI 40 then (if 0 ≤ (hi h 1297 (Int32.toNatClampNeg x1)) ∧ (hi h 1297 (Int32.toNatClampNeg x1)) < nI 256 then (if ¬ (hi h 1296 (Int32.toNatClampNeg x1)) = 1 then (b_m_resolve_218 K2 x1 (hsi (hsi h 1287 (Int32.toNatClampNeg (hi h 1297 (Int32.toNatClampNeg x1))) (hi h 1272 (Int32.toNatClampNeg x2))) 1286 (Int32.toNatClampNeg (hi h 1297 (Int32.toNatClampNeg x1))) (hi h 1271 (Int32.toNatClampNeg x2)))) else (b_m_resolve_218 K2 x1 (hsi (hsi h 1287 (Int32.toNatClampNeg (hi h 1297 (Int32.toNatClampNeg x1))) (hi h 1272 (Int32.toNatClampNeg x2))) 1288 (Int32.toNatClampNeg (hi h 1297 (Int32.toNatClampNeg x1))) (hi h 1271 (Int32.toNatClampNeg x2))))) else none) else none) else (if ¬ x1 = ((hi h 1262 46) - 1) then (if 0 ≤ x2 ∧ x2 < nI 40 then (if 0 ≤ (hi h 1297 (Int32.toNatClampNeg x1)) ∧ (hi h 1297 (Int32.toNatClampNeg x1)) < nI 64 then (b_m_resolve_218 K2 x1 (hsi h 1294 (Int32.toNatClampNeg (hi h 1297 (Int32.toNatClampNeg x1))) (hi h 1272 (Int32.toNatClampNeg x2)))) else none) else none) else (if 0 ≤ x2 ∧ x2 < nI 40 then (b_m_resolve_218 K2 x1 (hsi h 1262 45 (hi h 1272 (Int32.toNatClampNeg x2)))) else none))) else none) else (if 0 ≤ x1 ∧ x1 < nI 400 then (if 0 ≤ (hi h 1295 (Int32.toNatClampNeg x1)) ∧ (hi h 1295 (Int32.toNatClampNeg x1)) < nI 4001 then (b_m_resolve_218 K2 x1 (hsi (hsi h 1262 14 5) 1262 15 (hi h 1267 (Int32.toNatClampNeg (hi h 1295 (Int32.toNatClampNeg x1)))))) else none) else none))
set_option maxRecDepth 20000 in
theorem kb_m_resolve_77 {l : Launch} {G : XG} {d : Nat} {K2 : Int32 → XH → Option (Unit × XH)} {x1 : Int32} {x2 : Int32} {y0 : Int32} {h : XH} {r : Unit × XH} (hK2 : ∀ (x1 : Int32) (h : XH), LY h → K2 x1 h = some r → XR l G xEX12_resolve (d + 2) (2, [some (.ref 1262), some (.int x1), none, none, none], [], h) (fun C => ∃ v, xRet xEX12_resolve C v ∧ (C.2.2.2 = r.2 ∧ v = none) ∧ LY r.2)) (L0 : LY h) (hf : b_m_resolve_77 K2 x1 x2 y0 h = some r) : XR l G xEX12_resolve (d + 2) (77, [some (.ref 1262), some (.int x1), some (.int x2), none, none], [(.int y0)], h) (fun C => ∃ v, xRet xEX12_resolve C v ∧ (C.2.2.2 = r.2 ∧ v = none) ∧ LY r.2) := by
  unfold b_m_resolve_77 at hf
  refine XS.go (XS.lcl (L3 := [some (.ref 1262), some (.int x1), some (.int x2), some (.int y0), none]) (s_istoren rfl rfl (Nat.le_of_ble_eq_true rfl)) rfl) ?_
  refine XS.go (s_iloadn rfl rfl rfl) ?_
  refine r_if_ne (tgt := 105) rfl rfl (fun qc6 => ?_) (fun qc6 => ?_)
  · replace hf := xi_pos hf qc6
    refine XS.go (s_aloadn rfl rfl rfl) ?_
    refine XS.go (s_getr rfl xf12_110 (LY.lt L0 (by decide)) (LY.k1262 L0) (by decide) rfl (LY.r1262_48 L0)) ?_
    refine XS.go (s_iloadn rfl rfl rfl) ?_
    replace hf := xi_none hf
    obtain ⟨qk7, hf⟩ := hf
    refine XS.go (s_ialde rfl (LY.lt L0 (by decide)) (LY.k1296 L0) (inLit (LY.n1296 L0) qk7.1 qk7.2 (by decide)) rfl) ?_
    refine XS.go (s_iconst (v := 2) rfl rfl) ?_
    refine r_icmp_ne (tgt := 158) rfl rfl (fun qc8 => ?_) (fun qc8 => ?_)
    · replace hf := xi_pos hf qc8
      refine XS.go (s_aloadn rfl rfl rfl) ?_
      refine XS.go (s_getr rfl xf12_113 (LY.lt L0 (by decide)) (LY.k1262 L0) (by decide) rfl (LY.r1262_49 L0)) ?_
      refine XS.go (s_iloadn rfl rfl rfl) ?_
      refine XS.go (s_ialde rfl (LY.lt L0 (by decide)) (LY.k1297 L0) (inLit (LY.n1297 L0) qk7.1 qk7.2 (by decide)) rfl) ?_
      refine XS.go (XS.lcl (L3 := [some (.ref 1262), some (.int x1), some (.int x2), some (.int y0), some (.int (hi h 1297 (Int32.toNatClampNeg x1)))]) (s_istore rfl (Nat.le_of_ble_eq_true rfl)) rfl) ?_
      refine XS.go (s_aloadn rfl rfl rfl) ?_
      refine XS.go (s_getr rfl xf12_82 (LY.lt L0 (by decide)) (LY.k1262 L0) (by decide) rfl (LY.r1262_36 L0)) ?_
      refine XS.go (s_iload rfl rfl) ?_
      refine XS.go (s_aloadn rfl rfl rfl) ?_
      refine XS.go (s_getr rfl xf12_37 (LY.lt L0 (by decide)) (LY.k1262 L0) (by decide) rfl (LY.r1262_19 L0)) ?_
      refine XS.go (s_iloadn rfl rfl rfl) ?_
      replace hf := xi_none hf
      obtain ⟨qk9, hf⟩ := hf
      refine XS.go (s_ialde rfl (LY.lt L0 (by decide)) (LY.k1272 L0) (inLit (LY.n1272 L0) qk9.1 qk9.2 (by decide)) rfl) ?_
      replace hf := xi_none hf
      obtain ⟨qk10, hf⟩ := hf
      refine XS.go (s_iast rfl (LY.lt L0 (by decide)) (LY.k1287 L0) (inLit (LY.n1287 L0) qk10.1 qk10.2 (by decide))) ?_
      refine XS.go (s_aloadn rfl rfl rfl) ?_
      refine XS.go (s_getr rfl xf12_110 (LY.lt (by simp only [LY_si, LY_sj]; exact L0) (by decide)) (LY.k1262 (by simp only [LY_si, LY_sj]; exact L0)) (by decide) rfl (LY.r1262_48 (by simp only [LY_si, LY_sj]; exact L0))) ?_
      refine XS.go (s_iloadn rfl rfl rfl) ?_
      refine XS.go (s_ialde rfl (LY.lt (by simp only [LY_si, LY_sj]; exact L0) (by decide)) (LY.k1296 (by simp only [LY_si, LY_sj]; exact L0)) (inLit (LY.n1296 (by simp only [LY_si, LY_sj]; exact L0)) qk7.1 qk7.2 (by decide)) (hi_hsi_na (by decide))) ?_
      refine XS.go (s_iconst (v := 1) rfl rfl) ?_
      refine r_icmp_ne (tgt := 205) rfl rfl (fun qc11 => ?_) (fun qc11 => ?_)
      · replace hf := xi_pos hf qc11
        refine XS.go (s_aloadn rfl rfl rfl) ?_
        refine XS.go (s_getr rfl xf12_79 (LY.lt (by simp only [LY_si, LY_sj]; exact L0) (by decide)) (LY.k1262 (by simp only [LY_si, LY_sj]; exact L0)) (by decide) rfl (LY.r1262_35 (by simp only [LY_si, LY_sj]; exact L0))) ?_
        refine XS.go (s_iload rfl rfl) ?_
        refine XS.go (s_aloadn rfl rfl rfl) ?_
        refine XS.go (s_getr rfl xf12_34 (LY.lt (by simp only [LY_si, LY_sj]; exact L0) (by decide)) (LY.k1262 (by simp only [LY_si, LY_sj]; exact L0)) (by decide) rfl (LY.r1262_18 (by simp only [LY_si, LY_sj]; exact L0))) ?_
        refine XS.go (s_iloadn rfl rfl rfl) ?_
        refine XS.go (s_ialde rfl (LY.lt (by simp only [LY_si, LY_sj]; exact L0) (by decide)) (LY.k1271 (by simp only [LY_si, LY_sj]; exact L0)) (inLit (LY.n1271 (by simp only [LY_si, LY_sj]; exact L0)) qk9.1 qk9.2 (by decide)) (hi_hsi_na (by decide))) ?_
        refine XS.go (s_iast rfl (LY.lt (by simp only [LY_si, LY_sj]; exact L0) (by decide)) (LY.k1286 (by simp only [LY_si, LY_sj]; exact L0)) (inLit (LY.n1286 (by simp only [LY_si, LY_sj]; exact L0)) qk10.1 qk10.2 (by decide))) ?_
        exact XR.forget (L2 := [some (.ref 1262), some (.int x1), none, none, none]) ⟨rfl, ⟨rfl, trivial⟩⟩ (kb_m_resolve_218 hK2 (by simp only [LY_si, LY_sj]; exact L0) hf)
      · replace hf := xi_neg hf qc11
        refine XS.go (s_aloadn rfl rfl rfl) ?_
        refine XS.go (s_getr rfl xf12_85 (LY.lt (by simp only [LY_si, LY_sj]; exact L0) (by decide)) (LY.k1262 (by simp only [LY_si, LY_sj]; exact L0)) (by decide) rfl (LY.r1262_37 (by simp only [LY_si, LY_sj]; exact L0))) ?_
        refine XS.go (s_iload rfl rfl) ?_
        refine XS.go (s_aloadn rfl rfl rfl) ?_
        refine XS.go (s_getr rfl xf12_34 (LY.lt (by simp only [LY_si, LY_sj]; exact L0) (by decide)) (LY.k1262 (by simp only [LY_si, LY_sj]; exact L0)) (by decide) rfl (LY.r1262_18 (by simp only [LY_si, LY_sj]; exact L0))) ?_
        refine XS.go (s_iloadn rfl rfl rfl) ?_
        refine XS.go (s_ialde rfl (LY.lt (by simp only [LY_si, LY_sj]; exact L0) (by decide)) (LY.k1271 (by simp only [LY_si, LY_sj]; exact L0)) (inLit (LY.n1271 (by simp only [LY_si, LY_sj]; exact L0)) qk9.1 qk9.2 (by decide)) (hi_hsi_na (by decide))) ?_
        refine XS.go (s_iast rfl (LY.lt (by simp only [LY_si, LY_sj]; exact L0) (by decide)) (LY.k1288 (by simp only [LY_si, LY_sj]; exact L0)) (inLit (LY.n1288 (by simp only [LY_si, LY_sj]; exact L0)) qk10.1 qk10.2 (by decide))) ?_
        refine XS.go (s_goto (tgt := 218) rfl rfl) ?_
        exact XR.forget (L2 := [some (.ref 1262), some (.int x1), none, none, none]) ⟨rfl, ⟨rfl, trivial⟩⟩ (kb_m_resolve_218 hK2 (by simp only [LY_si, LY_sj]; exact L0) hf)
    · replace hf := xi_neg hf qc8
      refine XS.go (s_iloadn rfl rfl rfl) ?_
      refine XS.go (s_aloadn rfl rfl rfl) ?_
      refine XS.go (s_getie rfl xf12_263 (LY.lt L0 (by decide)) (LY.k1262 L0) (by decide) rfl rfl) ?_
      refine XS.go (s_iconst (v := 1) rfl rfl) ?_
      refine XS.go (s_isub rfl) ?_
      refine r_icmp_ne (tgt := 138) rfl rfl (fun qc12 => ?_) (fun qc12 => ?_)
      · replace hf := xi_pos hf qc12
        refine XS.go (s_aloadn rfl rfl rfl) ?_
        refine XS.go (s_getr rfl xf12_104 (LY.lt L0 (by decide)) (LY.k1262 L0) (by decide) rfl (LY.r1262_44 L0)) ?_
        refine XS.go (s_aloadn rfl rfl rfl) ?_
        refine XS.go (s_getr rfl xf12_113 (LY.lt L0 (by decide)) (LY.k1262 L0) (by decide) rfl (LY.r1262_49 L0)) ?_
        refine XS.go (s_iloadn rfl rfl rfl) ?_
        refine XS.go (s_ialde rfl (LY.lt L0 (by decide)) (LY.k1297 L0) (inLit (LY.n1297 L0) qk7.1 qk7.2 (by decide)) rfl) ?_
        refine XS.go (s_aloadn rfl rfl rfl) ?_
        refine XS.go (s_getr rfl xf12_37 (LY.lt L0 (by decide)) (LY.k1262 L0) (by decide) rfl (LY.r1262_19 L0)) ?_
        refine XS.go (s_iloadn rfl rfl rfl) ?_
        replace hf := xi_none hf
        obtain ⟨qk13, hf⟩ := hf
        refine XS.go (s_ialde rfl (LY.lt L0 (by decide)) (LY.k1272 L0) (inLit (LY.n1272 L0) qk13.1 qk13.2 (by decide)) rfl) ?_
        replace hf := xi_none hf
        obtain ⟨qk14, hf⟩ := hf
        refine XS.go (s_iast rfl (LY.lt L0 (by decide)) (LY.k1294 L0) (inLit (LY.n1294 L0) qk14.1 qk14.2 (by decide))) ?_
        refine XS.go (s_goto (tgt := 218) rfl rfl) ?_
        exact XR.forget (L2 := [some (.ref 1262), some (.int x1), none, none, none]) ⟨rfl, ⟨rfl, trivial⟩⟩ (kb_m_resolve_218 hK2 (by simp only [LY_si, LY_sj]; exact L0) hf)
      · replace hf := xi_neg hf qc12
        refine XS.go (s_aloadn rfl rfl rfl) ?_
        refine XS.go (s_aloadn rfl rfl rfl) ?_
        refine XS.go (s_getr rfl xf12_37 (LY.lt L0 (by decide)) (LY.k1262 L0) (by decide) rfl (LY.r1262_19 L0)) ?_
        refine XS.go (s_iloadn rfl rfl rfl) ?_
        replace hf := xi_none hf
        obtain ⟨qk15, hf⟩ := hf
        refine XS.go (s_ialde rfl (LY.lt L0 (by decide)) (LY.k1272 L0) (inLit (LY.n1272 L0) qk15.1 qk15.2 (by decide)) rfl) ?_
        refine XS.go (s_puti rfl xf12_338 (LY.lt L0 (by decide)) (LY.k1262 L0) (by decide) rfl (Or.inl rfl)) ?_
        refine XS.go (s_goto (tgt := 218) rfl rfl) ?_
        exact XR.forget (L2 := [some (.ref 1262), some (.int x1), none, none, none]) ⟨rfl, ⟨rfl, trivial⟩⟩ (kb_m_resolve_218 hK2 (by simp only [LY_si, LY_sj]; exact L0) hf)
  · replace hf := xi_neg hf qc6
    refine XS.go (s_aloadn rfl rfl rfl) ?_
    refine XS.go (s_iconst (v := 5) rfl rfl) ?_
    refine XS.go (s_puti rfl xf12_221 (LY.lt L0 (by decide)) (LY.k1262 L0) (by decide) rfl (Or.inl rfl)) ?_
    refine XS.go (s_aloadn rfl rfl rfl) ?_
    refine XS.go (s_aloadn rfl rfl rfl) ?_
    refine XS.go (s_getr rfl xf12_22 (LY.lt (by simp only [LY_si, LY_sj]; exact L0) (by decide)) (LY.k1262 (by simp only [LY_si, LY_sj]; exact L0)) (by decide) rfl (LY.r1262_9 (by simp only [LY_si, LY_sj]; exact L0))) ?_
    refine XS.go (s_aloadn rfl rfl rfl) ?_
    refine XS.go (s_getr rfl xf12_107 (LY.lt (by simp only [LY_si, LY_sj]; exact L0) (by decide)) (LY.k1262 (by simp only [LY_si, LY_sj]; exact L0)) (by decide) rfl (LY.r1262_47 (by simp only [LY_si, LY_sj]; exact L0))) ?_
    refine XS.go (s_iloadn rfl rfl rfl) ?_
    replace hf := xi_none hf
    obtain ⟨qk16, hf⟩ := hf
    refine XS.go (s_ialde rfl (LY.lt (by simp only [LY_si, LY_sj]; exact L0) (by decide)) (LY.k1295 (by simp only [LY_si, LY_sj]; exact L0)) (inLit (LY.n1295 (by simp only [LY_si, LY_sj]; exact L0)) qk16.1 qk16.2 (by decide)) (hi_hsi_na (by decide))) ?_
    replace hf := xi_none hf
    obtain ⟨qk17, hf⟩ := hf
    refine XS.go (s_ialde rfl (LY.lt (by simp only [LY_si, LY_sj]; exact L0) (by decide)) (LY.k1267 (by simp only [LY_si, LY_sj]; exact L0)) (inLit (LY.n1267 (by simp only [LY_si, LY_sj]; exact L0)) qk17.1 qk17.2 (by decide)) (hi_hsi_na (by decide))) ?_
    refine XS.go (s_puti rfl xf12_227 (LY.lt (by simp only [LY_si, LY_sj]; exact L0) (by decide)) (LY.k1262 (by simp only [LY_si, LY_sj]; exact L0)) (by decide) rfl (Or.inl rfl)) ?_
    refine XS.go (s_goto (tgt := 218) rfl rfl) ?_
    exact XR.forget (L2 := [some (.ref 1262), some (.int x1), none, none, none]) ⟨rfl, ⟨rfl, trivial⟩⟩ (kb_m_resolve_218 hK2 (by simp only [LY_si, LY_sj]; exact L0) hf)
def b_m_resolve_76 (K2 : Int32 → XH → Option (Unit × XH)) (x1 : Int32) (x2 : Int32) (h : XH) : Option (Unit × XH) := (b_m_resolve_77 K2 x1 x2 0 h)
set_option maxRecDepth 20000 in
theorem kb_m_resolve_76 {l : Launch} {G : XG} {d : Nat} {K2 : Int32 → XH → Option (Unit × XH)} {x1 : Int32} {x2 : Int32} {h : XH} {r : Unit × XH} (hK2 : ∀ (x1 : Int32) (h : XH), LY h → K2 x1 h = some r → XR l G xEX12_resolve (d + 2) (2, [some (.ref 1262), some (.int x1), none, none, none], [], h) (fun C => ∃ v, xRet xEX12_resolve C v ∧ (C.2.2.2 = r.2 ∧ v = none) ∧ LY r.2)) (L0 : LY h) (hf : b_m_resolve_76 K2 x1 x2 h = some r) : XR l G xEX12_resolve (d + 2) (76, [some (.ref 1262), some (.int x1), some (.int x2), none, none], [], h) (fun C => ∃ v, xRet xEX12_resolve C v ∧ (C.2.2.2 = r.2 ∧ v = none) ∧ LY r.2) := by
  unfold b_m_resolve_76 at hf
  refine XS.go (s_iconst (v := 0) rfl rfl) ?_
  exact XR.forget (L2 := [some (.ref 1262), some (.int x1), some (.int x2), none, none]) ⟨rfl, ⟨rfl, ⟨rfl, trivial⟩⟩⟩ (kb_m_resolve_77 hK2 L0 hf)
def b_m_resolve_72 (K2 : Int32 → XH → Option (Unit × XH)) (x1 : Int32) (x2 : Int32) (h : XH) : Option (Unit × XH) := (b_m_resolve_77 K2 x1 x2 1 h)
set_option maxRecDepth 20000 in
theorem kb_m_resolve_72 {l : Launch} {G : XG} {d : Nat} {K2 : Int32 → XH → Option (Unit × XH)} {x1 : Int32} {x2 : Int32} {h : XH} {r : Unit × XH} (hK2 : ∀ (x1 : Int32) (h : XH), LY h → K2 x1 h = some r → XR l G xEX12_resolve (d + 2) (2, [some (.ref 1262), some (.int x1), none, none, none], [], h) (fun C => ∃ v, xRet xEX12_resolve C v ∧ (C.2.2.2 = r.2 ∧ v = none) ∧ LY r.2)) (L0 : LY h) (hf : b_m_resolve_72 K2 x1 x2 h = some r) : XR l G xEX12_resolve (d + 2) (72, [some (.ref 1262), some (.int x1), some (.int x2), none, none], [], h) (fun C => ∃ v, xRet xEX12_resolve C v ∧ (C.2.2.2 = r.2 ∧ v = none) ∧ LY r.2) := by
  unfold b_m_resolve_72 at hf
  refine XS.go (s_iconst (v := 1) rfl rfl) ?_
  refine XS.go (s_goto (tgt := 77) rfl rfl) ?_
  exact XR.forget (L2 := [some (.ref 1262), some (.int x1), some (.int x2), none, none]) ⟨rfl, ⟨rfl, ⟨rfl, trivial⟩⟩⟩ (kb_m_resolve_77 hK2 L0 hf)
def s_m_resolve_2 (K2 : Int32 → XH → Option (Unit × XH)) (x1 : Int32) (h : XH) : Option (Unit × XH) := (if (hi h 1262 46) ≤ x1 then (b_m_resolve_224 h) else (if ¬ (hi h 1262 14) = 0 then (b_m_resolve_224 h) else (if 0 ≤ x1 ∧ x1 < nI 400 then (Option.bind (f_m_definition (hi h 1295 (Int32.toNatClampNeg x1)) h) fun r21 => (if r21.1 = (-1) then (b_m_resolve_76 K2 x1 r21.1 r21.2) else (if 0 ≤ x1 ∧ x1 < nI 400 then (if (hi r21.2 1296 (Int32.toNatClampNeg x1)) = 0 then (b_m_resolve_72 K2 x1 r21.1 r21.2) else (if 0 ≤ r21.1 ∧ r21.1 < nI 40 then (if (hi r21.2 1271 (Int32.toNatClampNeg r21.1)) = 3 then (b_m_resolve_72 K2 x1 r21.1 r21.2) else (if ¬ (hi r21.2 1296 (Int32.toNatClampNeg x1)) = 1 then (b_m_resolve_76 K2 x1 r21.1 r21.2) else (if ¬ (hi r21.2 1271 (Int32.toNatClampNeg r21.1)) = 2 then (b_m_resolve_76 K2 x1 r21.1 r21.2) else (b_m_resolve_72 K2 x1 r21.1 r21.2)))) else none)) else none))) else none)))
set_option maxRecDepth 20000 in
theorem ks_m_resolve_2 {l : Launch} {G : XG} {d : Nat} {K2 : Int32 → XH → Option (Unit × XH)} {x1 : Int32} {h : XH} {r : Unit × XH} (hK2 : ∀ (x1 : Int32) (h : XH), LY h → K2 x1 h = some r → XR l G xEX12_resolve (d + 2) (2, [some (.ref 1262), some (.int x1), none, none, none], [], h) (fun C => ∃ v, xRet xEX12_resolve C v ∧ (C.2.2.2 = r.2 ∧ v = none) ∧ LY r.2)) (L0 : LY h) (hf : s_m_resolve_2 K2 x1 h = some r) : XR l G xEX12_resolve (d + 2) (2, [some (.ref 1262), some (.int x1), none, none, none], [], h) (fun C => ∃ v, xRet xEX12_resolve C v ∧ (C.2.2.2 = r.2 ∧ v = none) ∧ LY r.2) := by
  unfold s_m_resolve_2 at hf
  refine XS.go (s_iloadn rfl rfl rfl) ?_
  refine XS.go (s_aloadn rfl rfl rfl) ?_
  refine XS.go (s_getie rfl xf12_263 (LY.lt L0 (by decide)) (LY.k1262 L0) (by decide) rfl rfl) ?_
  refine r_icmp_ge (tgt := 224) rfl rfl (fun qc18 => ?_) (fun qc18 => ?_)
  · replace hf := xi_pos hf qc18
    exact XR.forget (L2 := [some (.ref 1262), none, none, none, none]) ⟨rfl, trivial⟩ (kb_m_resolve_224 L0 hf)
  · replace hf := xi_neg hf qc18
    refine XS.go (s_aloadn rfl rfl rfl) ?_
    refine XS.go (s_getie rfl xf12_221 (LY.lt L0 (by decide)) (LY.k1262 L0) (by decide) rfl rfl) ?_
    refine r_if_ne (tgt := 224) rfl rfl (fun qc19 => ?_) (fun qc19 => ?_)
    · replace hf := xi_pos hf qc19
      exact XR.forget (L2 := [some (.ref 1262), none, none, none, none]) ⟨rfl, trivial⟩ (kb_m_resolve_224 L0 hf)
    · replace hf := xi_neg hf qc19
      refine XS.go (s_aloadn rfl rfl rfl) ?_
      refine XS.go (s_aloadn rfl rfl rfl) ?_
      refine XS.go (s_getr rfl xf12_107 (LY.lt L0 (by decide)) (LY.k1262 L0) (by decide) rfl (LY.r1262_47 L0)) ?_
      refine XS.go (s_iloadn rfl rfl rfl) ?_
      replace hf := xi_none hf
      obtain ⟨qk20, hf⟩ := hf
      refine XS.go (s_ialde rfl (LY.lt L0 (by decide)) (LY.k1295 L0) (inLit (LY.n1295 L0) qk20.1 qk20.2 (by decide)) rfl) ?_
      replace hf := xb_some hf
      obtain ⟨r21, e22, hf⟩ := hf
      refine r_callv rfl xvX12_definition xm12_289 (kf_m_definition (d := d) L0 e22) (LY.lt L0 (by decide)) (LY.k1262 L0) (by decide) rfl rfl (dl (by decide)) (by decide) (Nat.le_of_ble_eq_true rfl) ?_
      rintro _ _ ⟨⟨rfl, rfl⟩, L23⟩
      refine XS.go (XS.lcl (L3 := [some (.ref 1262), some (.int x1), some (.int r21.1), none, none]) (s_istoren rfl rfl (Nat.le_of_ble_eq_true rfl)) rfl) ?_
      refine XS.go (s_iloadn rfl rfl rfl) ?_
      refine XS.go (s_iconst (v := (-1)) rfl rfl) ?_
      refine r_icmp_eq (tgt := 76) rfl rfl (fun qc24 => ?_) (fun qc24 => ?_)
      · replace hf := xi_pos hf qc24
        exact XR.forget (L2 := [some (.ref 1262), some (.int x1), some (.int r21.1), none, none]) ⟨rfl, ⟨rfl, ⟨rfl, trivial⟩⟩⟩ (kb_m_resolve_76 hK2 L23 hf)
      · replace hf := xi_neg hf qc24
        refine XS.go (s_aloadn rfl rfl rfl) ?_
        refine XS.go (s_getr rfl xf12_110 (LY.lt L23 (by decide)) (LY.k1262 L23) (by decide) rfl (LY.r1262_48 L23)) ?_
        refine XS.go (s_iloadn rfl rfl rfl) ?_
        replace hf := xi_none hf
        obtain ⟨qk25, hf⟩ := hf
        refine XS.go (s_ialde rfl (LY.lt L23 (by decide)) (LY.k1296 L23) (inLit (LY.n1296 L23) qk25.1 qk25.2 (by decide)) rfl) ?_
        refine r_if_eq (tgt := 72) rfl rfl (fun qc26 => ?_) (fun qc26 => ?_)
        · replace hf := xi_pos hf qc26
          exact XR.forget (L2 := [some (.ref 1262), some (.int x1), some (.int r21.1), none, none]) ⟨rfl, ⟨rfl, ⟨rfl, trivial⟩⟩⟩ (kb_m_resolve_72 hK2 L23 hf)
        · replace hf := xi_neg hf qc26
          refine XS.go (s_aloadn rfl rfl rfl) ?_
          refine XS.go (s_getr rfl xf12_34 (LY.lt L23 (by decide)) (LY.k1262 L23) (by decide) rfl (LY.r1262_18 L23)) ?_
          refine XS.go (s_iloadn rfl rfl rfl) ?_
          replace hf := xi_none hf
          obtain ⟨qk27, hf⟩ := hf
          refine XS.go (s_ialde rfl (LY.lt L23 (by decide)) (LY.k1271 L23) (inLit (LY.n1271 L23) qk27.1 qk27.2 (by decide)) rfl) ?_
          refine XS.go (s_iconst (v := 3) rfl rfl) ?_
          refine r_icmp_eq (tgt := 72) rfl rfl (fun qc28 => ?_) (fun qc28 => ?_)
          · replace hf := xi_pos hf qc28
            exact XR.forget (L2 := [some (.ref 1262), some (.int x1), some (.int r21.1), none, none]) ⟨rfl, ⟨rfl, ⟨rfl, trivial⟩⟩⟩ (kb_m_resolve_72 hK2 L23 hf)
          · replace hf := xi_neg hf qc28
            refine XS.go (s_aloadn rfl rfl rfl) ?_
            refine XS.go (s_getr rfl xf12_110 (LY.lt L23 (by decide)) (LY.k1262 L23) (by decide) rfl (LY.r1262_48 L23)) ?_
            refine XS.go (s_iloadn rfl rfl rfl) ?_
            refine XS.go (s_ialde rfl (LY.lt L23 (by decide)) (LY.k1296 L23) (inLit (LY.n1296 L23) qk25.1 qk25.2 (by decide)) rfl) ?_
            refine XS.go (s_iconst (v := 1) rfl rfl) ?_
            refine r_icmp_ne (tgt := 76) rfl rfl (fun qc29 => ?_) (fun qc29 => ?_)
            · replace hf := xi_pos hf qc29
              exact XR.forget (L2 := [some (.ref 1262), some (.int x1), some (.int r21.1), none, none]) ⟨rfl, ⟨rfl, ⟨rfl, trivial⟩⟩⟩ (kb_m_resolve_76 hK2 L23 hf)
            · replace hf := xi_neg hf qc29
              refine XS.go (s_aloadn rfl rfl rfl) ?_
              refine XS.go (s_getr rfl xf12_34 (LY.lt L23 (by decide)) (LY.k1262 L23) (by decide) rfl (LY.r1262_18 L23)) ?_
              refine XS.go (s_iloadn rfl rfl rfl) ?_
              refine XS.go (s_ialde rfl (LY.lt L23 (by decide)) (LY.k1271 L23) (inLit (LY.n1271 L23) qk27.1 qk27.2 (by decide)) rfl) ?_
              refine XS.go (s_iconst (v := 2) rfl rfl) ?_
              refine r_icmp_ne (tgt := 76) rfl rfl (fun qc30 => ?_) (fun qc30 => ?_)
              · replace hf := xi_pos hf qc30
                exact XR.forget (L2 := [some (.ref 1262), some (.int x1), some (.int r21.1), none, none]) ⟨rfl, ⟨rfl, ⟨rfl, trivial⟩⟩⟩ (kb_m_resolve_76 hK2 L23 hf)
              · replace hf := xi_neg hf qc30
                exact XR.forget (L2 := [some (.ref 1262), some (.int x1), some (.int r21.1), none, none]) ⟨rfl, ⟨rfl, ⟨rfl, trivial⟩⟩⟩ (kb_m_resolve_72 hK2 L23 hf)
def b_m_resolve_2 : Nat → Int32 → XH → Option (Unit × XH)
  | 0, _, _ => none
  | n + 1, x1, h => s_m_resolve_2 (b_m_resolve_2 n) x1 h
theorem kb_m_resolve_2 {l : Launch} {G : XG} {d : Nat} {n : Nat} {x1 : Int32} {h : XH} {r : Unit × XH} (L0 : LY h) (hf : b_m_resolve_2 n x1 h = some r) : XR l G xEX12_resolve (d + 2) (2, [some (.ref 1262), some (.int x1), none, none, none], [], h) (fun C => ∃ v, xRet xEX12_resolve C v ∧ (C.2.2.2 = r.2 ∧ v = none) ∧ LY r.2) := by
  induction n generalizing x1 h with
  | zero => cases hf
  | succ n ih => exact ks_m_resolve_2 (fun x1 h L0 hf => ih (h := h) (x1 := x1) L0 hf) L0 hf
def f_m_resolve (h : XH) : Option (Unit × XH) := (b_m_resolve_2 100000 0 h)
set_option maxRecDepth 20000 in
theorem kf_m_resolve {l : Launch} {G : XG} {d : Nat} {h : XH} {r : Unit × XH} (L0 : LY h) (hf : f_m_resolve h = some r) : XC l G xEX12_resolve (d + 2) [.ref 1262] h (fun v h2 => (h2 = r.2 ∧ v = none) ∧ LY r.2) := by
  refine XC.virt xvX12_resolve (Nat.le_of_ble_eq_true rfl) ?_
  unfold f_m_resolve at hf
  refine XR.norm (L3 := [some (.ref 1262), none, none, none, none]) rfl ?_
  refine XS.go (s_iconst (v := 0) rfl rfl) ?_
  refine XS.go (XS.lcl (L3 := [some (.ref 1262), some (.int 0), none, none, none]) (s_istoren rfl rfl (Nat.le_of_ble_eq_true rfl)) rfl) ?_
  exact XR.forget (L2 := [some (.ref 1262), some (.int 0), none, none, none]) ⟨rfl, ⟨rfl, trivial⟩⟩ (kb_m_resolve_2 L0 hf)
