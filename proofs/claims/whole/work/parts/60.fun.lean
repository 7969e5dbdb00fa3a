/-! Methods as functions of the heap -/
def b_m_parse_151 (h : XH) : Option (Unit × XH) := (if ¬ (hi h 1262 14) = 0 then (some ((), h)) else (Option.bind (f_m_resolve h) fun r2 => (some ((), r2.2))))
set_option maxRecDepth 20000 in
theorem kb_m_parse_151 {l : Launch} {G : XG} {d : Nat} {h : XH} {r : Unit × XH} (L0 : LY h) (hf : b_m_parse_151 h = some r) : XR l G xEX12_parse (d + 7) (151, [some (.ref 1262), none], [], h) (fun C => ∃ v, xRet xEX12_parse C v ∧ (C.2.2.2 = r.2 ∧ v = none) ∧ LY r.2) := by
  unfold b_m_parse_151 at hf
  refine XS.go (s_aloadn rfl rfl rfl) ?_
  refine XS.go (s_getie rfl xf12_221 (LY.lt L0 (by decide)) (LY.k1262 L0) (by decide) rfl rfl) ?_
  refine r_if_ne (tgt := 162) rfl rfl (fun qc1 => ?_) (fun qc1 => ?_)
  · replace hf := xi_pos hf qc1
    cases hf
    exact XR.retv rfl rfl (fun hret => ⟨_, hret, ⟨rfl, rfl⟩, L0⟩)
  · replace hf := xi_neg hf qc1
    refine XS.go (s_aloadn rfl rfl rfl) ?_
    replace hf := xb_some hf
    obtain ⟨r2, e3, hf⟩ := hf
    refine r_callv rfl xvX12_resolve xm12_286 (kf_m_resolve (d := d) L0 e3) (LY.lt L0 (by decide)) (LY.k1262 L0) (by decide) rfl rfl (dl (by decide)) (by decide) (Nat.le_of_ble_eq_true rfl) ?_
    rintro _ _ ⟨⟨rfl, rfl⟩, L4⟩
    cases hf
    exact XR.retv rfl rfl (fun hret => ⟨_, hret, ⟨rfl, rfl⟩, L4⟩)
def b_m_parse_102 (h : XH) : Option (Unit × XH) := (Option.bind (f_m_take h) fun r5 => (Option.bind (f_m_name r5.2) fun r8 => (Option.bind (f_m_ask (hi r5.2 1262 13) 2 0 r8.2) fun r11 => (Option.bind (f_m_sign 59 r11.2) fun r14 => (if ¬ (hi r14.2 1262 14) = 0 then (b_m_parse_151 r14.2) else (if 0 ≤ (hi r14.2 1262 13) ∧ (hi r14.2 1262 13) < nI 4001 then (if (hi r14.2 1266 (Int32.toNatClampNeg (hi r14.2 1262 13))) = 0 then (b_m_parse_151 r14.2) else (Option.bind (f_m_misfit r14.2) fun r20 => (b_m_parse_151 r20.2))) else none))))))
set_option maxRecDepth 20000 in
theorem kb_m_parse_102 {l : Launch} {G : XG} {d : Nat} {h : XH} {r : Unit × XH} (L0 : LY h) (hf : b_m_parse_102 h = some r) : XR l G xEX12_parse (d + 7) (102, [some (.ref 1262), none], [], h) (fun C => ∃ v, xRet xEX12_parse C v ∧ (C.2.2.2 = r.2 ∧ v = none) ∧ LY r.2) := by
  unfold b_m_parse_102 at hf
  refine XS.go (s_aloadn rfl rfl rfl) ?_
  replace hf := xb_some hf
  obtain ⟨r5, e6, hf⟩ := hf
  refine r_callv rfl xvX12_take xm12_240 (kf_m_take (d := d) L0 e6) (LY.lt L0 (by decide)) (LY.k1262 L0) (by decide) rfl rfl (dl0 (by decide)) (by decide) (Nat.le_of_ble_eq_true rfl) ?_
  rintro _ _ ⟨⟨rfl, rfl⟩, L7⟩
  refine XS.go (s_aloadn rfl rfl rfl) ?_
  refine XS.go (s_getie rfl xf12_224 (LY.lt L7 (by decide)) (LY.k1262 L7) (by decide) rfl rfl) ?_
  refine XS.go (XS.lcl (L3 := [some (.ref 1262), some (.int (hi r5.2 1262 13))]) (s_istoren rfl rfl (Nat.le_of_ble_eq_true rfl)) rfl) ?_
  refine XS.go (s_aloadn rfl rfl rfl) ?_
  replace hf := xb_some hf
  obtain ⟨r8, e9, hf⟩ := hf
  refine r_callv rfl xvX12_name xm12_275 (kf_m_name (d := d) L7 e9) (LY.lt L7 (by decide)) (LY.k1262 L7) (by decide) rfl rfl (dl (by decide)) (by decide) (Nat.le_of_ble_eq_true rfl) ?_
  rintro _ _ ⟨⟨rfl, rfl⟩, L10⟩
  refine XS.go (s_aloadn rfl rfl rfl) ?_
  refine XS.go (s_iloadn rfl rfl rfl) ?_
  refine XS.go (s_iconst (v := 2) rfl rfl) ?_
  refine XS.go (s_iconst (v := 0) rfl rfl) ?_
  replace hf := xb_some hf
  obtain ⟨r11, e12, hf⟩ := hf
  refine r_callv rfl xvX12_ask xm12_278 (kf_m_ask (d := d) L10 e12) (LY.lt L10 (by decide)) (LY.k1262 L10) (by decide) rfl rfl (dl0 (by decide)) (by decide) (Nat.le_of_ble_eq_true rfl) ?_
  rintro _ _ ⟨⟨rfl, rfl⟩, L13⟩
  refine XS.go (s_aloadn rfl rfl rfl) ?_
  refine XS.go (s_bipush (v := 59) rfl rfl) ?_
  replace hf := xb_some hf
  obtain ⟨r14, e15, hf⟩ := hf
  refine r_callv rfl xvX12_sign xm12_282 (kf_m_sign (d := d) L13 e15) (LY.lt L13 (by decide)) (LY.k1262 L13) (by decide) rfl rfl (dl (by decide)) (by decide) (Nat.le_of_ble_eq_true rfl) ?_
  rintro _ _ ⟨⟨rfl, rfl⟩, L16⟩
  refine XS.go (s_aloadn rfl rfl rfl) ?_
  refine XS.go (s_getie rfl xf12_221 (LY.lt L16 (by decide)) (LY.k1262 L16) (by decide) rfl rfl) ?_
  refine r_if_ne (tgt := 151) rfl rfl (fun qc17 => ?_) (fun qc17 => ?_)
  · replace hf := xi_pos hf qc17
    exact XR.forget (L2 := [some (.ref 1262), none]) ⟨rfl, trivial⟩ (kb_m_parse_151 L16 hf)
  · replace hf := xi_neg hf qc17
    refine XS.go (s_aloadn rfl rfl rfl) ?_
    refine XS.go (s_getr rfl xf12_19 (LY.lt L16 (by decide)) (LY.k1262 L16) (by decide) rfl (LY.r1262_8 L16)) ?_
    refine XS.go (s_aloadn rfl rfl rfl) ?_
    refine XS.go (s_getie rfl xf12_224 (LY.lt L16 (by decide)) (LY.k1262 L16) (by decide) rfl rfl) ?_
    replace hf := xi_none hf
    obtain ⟨qk18, hf⟩ := hf
    refine XS.go (s_ialde rfl (LY.lt L16 (by decide)) (LY.k1266 L16) (inLit (LY.n1266 L16) qk18.1 qk18.2 (by decide)) rfl) ?_
    refine r_if_eq (tgt := 151) rfl rfl (fun qc19 => ?_) (fun qc19 => ?_)
    · replace hf := xi_pos hf qc19
      exact XR.forget (L2 := [some (.ref 1262), none]) ⟨rfl, trivial⟩ (kb_m_parse_151 L16 hf)
    · replace hf := xi_neg hf qc19
      refine XS.go (s_aloadn rfl rfl rfl) ?_
      replace hf := xb_some hf
      obtain ⟨r20, e21, hf⟩ := hf
      refine r_callv rfl xvX12_misfit xm12_237 (kf_m_misfit (d := d) L16 e21) (LY.lt L16 (by decide)) (LY.k1262 L16) (by decide) rfl rfl (dl (by decide)) (by decide) (Nat.le_of_ble_eq_true rfl) ?_
      rintro _ _ ⟨⟨rfl, rfl⟩, L22⟩
      exact XR.forget (L2 := [some (.ref 1262), none]) ⟨rfl, trivial⟩ (kb_m_parse_151 L22 hf)
def b_m_parse_66 (K39 : XH → Option (Unit × XH)) (h : XH) : Option (Unit × XH) := (if 0 ≤ (hi h 1262 13) ∧ (hi h 1262 13) < nI 4001 then (Option.bind (f_m_define (hi h 1269 (Int32.toNatClampNeg (hi h 1262 13))) h) fun r24 => (K39 r24.2)) else none)
set_option maxRecDepth 20000 in
theorem kb_m_parse_66 {l : Launch} {G : XG} {d : Nat} {K39 : XH → Option (Unit × XH)} {h : XH} {r : Unit × XH} (hK39 : ∀ (h : XH), LY h → K39 h = some r → XR l G xEX12_parse (d + 7) (39, [some (.ref 1262), none], [], h) (fun C => ∃ v, xRet xEX12_parse C v ∧ (C.2.2.2 = r.2 ∧ v = none) ∧ LY r.2)) (L0 : LY h) (hf : b_m_parse_66 K39 h = some r) : XR l G xEX12_parse (d + 7) (66, [some (.ref 1262), none], [], h) (fun C => ∃ v, xRet xEX12_parse C v ∧ (C.2.2.2 = r.2 ∧ v = none) ∧ LY r.2) := by
  unfold b_m_parse_66 at hf
  refine XS.go (s_aloadn rfl rfl rfl) ?_
  refine XS.go (s_aloadn rfl rfl rfl) ?_
  refine XS.go (s_getr rfl xf12_28 (LY.lt L0 (by decide)) (LY.k1262 L0) (by decide) rfl (LY.r1262_11 L0)) ?_
  refine XS.go (s_aloadn rfl rfl rfl) ?_
  refine XS.go (s_getie rfl xf12_224 (LY.lt L0 (by decide)) (LY.k1262 L0) (by decide) rfl rfl) ?_
  replace hf := xi_none hf
  obtain ⟨qk23, hf⟩ := hf
  refine XS.go (s_ialde rfl (LY.lt L0 (by decide)) (LY.k1269 L0) (inLit (LY.n1269 L0) qk23.1 qk23.2 (by decide)) rfl) ?_
  replace hf := xb_some hf
  obtain ⟨r24, e25, hf⟩ := hf
  refine r_callv rfl xvX12_define xm12_272 (kf_m_define (d := d) L0 e25) (LY.lt L0 (by decide)) (LY.k1262 L0) (by decide) rfl rfl (dl (by decide)) (by decide) (Nat.le_of_ble_eq_true rfl) ?_
  rintro _ _ ⟨⟨rfl, rfl⟩, L26⟩
  refine XS.go (s_goto (tgt := 39) rfl rfl) ?_
  exact XR.forget (L2 := [some (.ref 1262), none]) ⟨rfl, trivial⟩ (hK39 _ L26 hf)
def s_m_parse_39 (K39 : XH → Option (Unit × XH)) (h : XH) : Option (Unit × XH) := (Option.bind (f_m_isWord 11 h) fun r27 => (if ¬ r27.1 = 0 then (b_m_parse_66 K39 r27.2) else (Option.bind (f_m_isWord 12 r27.2) fun r31 => (if ¬ r31.1 = 0 then (b_m_parse_66 K39 r31.2) else (Option.bind (f_m_isWord 13 r31.2) fun r35 => (if r35.1 = 0 then (if ¬ (hi r35.2 1262 14) = 0 then (b_m_parse_102 r35.2) else (Option.bind (f_m_isWord 14 r35.2) fun r40 => (if ¬ r40.1 = 0 then (b_m_parse_102 r40.2) else (Option.bind (f_m_misfit r40.2) fun r44 => (b_m_parse_102 r44.2))))) else (b_m_parse_66 K39 r35.2)))))))
set_option maxRecDepth 20000 in
theorem ks_m_parse_39 {l : Launch} {G : XG} {d : Nat} {K39 : XH → Option (Unit × XH)} {h : XH} {r : Unit × XH} (hK39 : ∀ (h : XH), LY h → K39 h = some r → XR l G xEX12_parse (d + 7) (39, [some (.ref 1262), none], [], h) (fun C => ∃ v, xRet xEX12_parse C v ∧ (C.2.2.2 = r.2 ∧ v = none) ∧ LY r.2)) (L0 : LY h) (hf : s_m_parse_39 K39 h = some r) : XR l G xEX12_parse (d + 7) (39, [some (.ref 1262), none], [], h) (fun C => ∃ v, xRet xEX12_parse C v ∧ (C.2.2.2 = r.2 ∧ v = none) ∧ LY r.2) := by
  unfold s_m_parse_39 at hf
  refine XS.go (s_aloadn rfl rfl rfl) ?_
  refine XS.go (s_bipush (v := 11) rfl rfl) ?_
  replace hf := xb_some hf
  obtain ⟨r27, e28, hf⟩ := hf
  refine r_callv rfl xvX12_isWord xm12_269 (kf_m_isWord (d := d) L0 e28) (LY.lt L0 (by decide)) (LY.k1262 L0) (by decide) rfl rfl (dl0 (by decide)) (by decide) (Nat.le_of_ble_eq_true rfl) ?_
  rintro _ _ ⟨⟨rfl, rfl⟩, L29⟩
  refine r_if_ne (tgt := 66) rfl rfl (fun qc30 => ?_) (fun qc30 => ?_)
  · replace hf := xi_pos hf qc30
    exact XR.forget (L2 := [some (.ref 1262), none]) ⟨rfl, trivial⟩ (kb_m_parse_66 hK39 L29 hf)
  · replace hf := xi_neg hf qc30
    refine XS.go (s_aloadn rfl rfl rfl) ?_
    refine XS.go (s_bipush (v := 12) rfl rfl) ?_
    replace hf := xb_some hf
    obtain ⟨r31, e32, hf⟩ := hf
    refine r_callv rfl xvX12_isWord xm12_269 (kf_m_isWord (d := d) L29 e32) (LY.lt L29 (by decide)) (LY.k1262 L29) (by decide) rfl rfl (dl0 (by decide)) (by decide) (Nat.le_of_ble_eq_true rfl) ?_
    rintro _ _ ⟨⟨rfl, rfl⟩, L33⟩
    refine r_if_ne (tgt := 66) rfl rfl (fun qc34 => ?_) (fun qc34 => ?_)
    · replace hf := xi_pos hf qc34
      exact XR.forget (L2 := [some (.ref 1262), none]) ⟨rfl, trivial⟩ (kb_m_parse_66 hK39 L33 hf)
    · replace hf := xi_neg hf qc34
      refine XS.go (s_aloadn rfl rfl rfl) ?_
      refine XS.go (s_bipush (v := 13) rfl rfl) ?_
      replace hf := xb_some hf
      obtain ⟨r35, e36, hf⟩ := hf
      refine r_callv rfl xvX12_isWord xm12_269 (kf_m_isWord (d := d) L33 e36) (LY.lt L33 (by decide)) (LY.k1262 L33) (by decide) rfl rfl (dl0 (by decide)) (by decide) (Nat.le_of_ble_eq_true rfl) ?_
      rintro _ _ ⟨⟨rfl, rfl⟩, L37⟩
      refine r_if_eq (tgt := 82) rfl rfl (fun qc38 => ?_) (fun qc38 => ?_)
      · replace hf := xi_pos hf qc38
        refine XS.go (s_aloadn rfl rfl rfl) ?_
        refine XS.go (s_getie rfl xf12_221 (LY.lt L37 (by decide)) (LY.k1262 L37) (by decide) rfl rfl) ?_
        refine r_if_ne (tgt := 102) rfl rfl (fun qc39 => ?_) (fun qc39 => ?_)
        · replace hf := xi_pos hf qc39
          exact XR.forget (L2 := [some (.ref 1262), none]) ⟨rfl, trivial⟩ (kb_m_parse_102 L37 hf)
        · replace hf := xi_neg hf qc39
          refine XS.go (s_aloadn rfl rfl rfl) ?_
          refine XS.go (s_bipush (v := 14) rfl rfl) ?_
          replace hf := xb_some hf
          obtain ⟨r40, e41, hf⟩ := hf
          refine r_callv rfl xvX12_isWord xm12_269 (kf_m_isWord (d := d) L37 e41) (LY.lt L37 (by decide)) (LY.k1262 L37) (by decide) rfl rfl (dl0 (by decide)) (by decide) (Nat.le_of_ble_eq_true rfl) ?_
          rintro _ _ ⟨⟨rfl, rfl⟩, L42⟩
          refine r_if_ne (tgt := 102) rfl rfl (fun qc43 => ?_) (fun qc43 => ?_)
          · replace hf := xi_pos hf qc43
            exact XR.forget (L2 := [some (.ref 1262), none]) ⟨rfl, trivial⟩ (kb_m_parse_102 L42 hf)
          · replace hf := xi_neg hf qc43
            refine XS.go (s_aloadn rfl rfl rfl) ?_
            replace hf := xb_some hf
            obtain ⟨r44, e45, hf⟩ := hf
            refine r_callv rfl xvX12_misfit xm12_237 (kf_m_misfit (d := d) L42 e45) (LY.lt L42 (by decide)) (LY.k1262 L42) (by decide) rfl rfl (dl (by decide)) (by decide) (Nat.le_of_ble_eq_true rfl) ?_
            rintro _ _ ⟨⟨rfl, rfl⟩, L46⟩
            exact XR.forget (L2 := [some (.ref 1262), none]) ⟨rfl, trivial⟩ (kb_m_parse_102 L46 hf)
      · replace hf := xi_neg hf qc38
        exact XR.forget (L2 := [some (.ref 1262), none]) ⟨rfl, trivial⟩ (kb_m_parse_66 hK39 L37 hf)
def b_m_parse_39 : Nat → XH → Option (Unit × XH)
  | 0, _ => none
  | n + 1, h => s_m_parse_39 (b_m_parse_39 n) h
theorem kb_m_parse_39 {l : Launch} {G : XG} {d : Nat} {n : Nat} {h : XH} {r : Unit × XH} (L0 : LY h) (hf : b_m_parse_39 n h = some r) : XR l G xEX12_parse (d + 7) (39, [some (.ref 1262), none], [], h) (fun C => ∃ v, xRet xEX12_parse C v ∧ (C.2.2.2 = r.2 ∧ v = none) ∧ LY r.2) := by
  induction n generalizing h with
  | zero => cases hf
  | succ n ih => exact ks_m_parse_39 (fun h L0 hf => ih (h := h) L0 hf) L0 hf
def f_m_parse (h : XH) : Option (Unit × XH) := (Option.bind (f_m_cut (hsi (hsi (hsi (hsi (hsi (hsi (hsi h 1262 14 0) 1262 13 0) 1262 16 0) 1262 20 0) 1262 31 0) 1262 41 0) 1262 46 0)) fun r47 => (b_m_parse_39 100000 r47.2))
set_option maxRecDepth 20000 in
theorem kf_m_parse {l : Launch} {G : XG} {d : Nat} {h : XH} {r : Unit × XH} (L0 : LY h) (hf : f_m_parse h = some r) : XC l G xEX12_parse (d + 7) [.ref 1262] h (fun v h2 => (h2 = r.2 ∧ v = none) ∧ LY r.2) := by
  refine XC.virt xvX12_parse (Nat.le_of_ble_eq_true rfl) ?_
  unfold f_m_parse at hf
  refine XR.norm (L3 := [some (.ref 1262), none]) rfl ?_
  refine XS.go (s_aloadn rfl rfl rfl) ?_
  refine XS.go (s_iconst (v := 0) rfl rfl) ?_
  refine XS.go (s_puti rfl xf12_221 (LY.lt L0 (by decide)) (LY.k1262 L0) (by decide) rfl (Or.inl rfl)) ?_
  refine XS.go (s_aloadn rfl rfl rfl) ?_
  refine XS.go (s_iconst (v := 0) rfl rfl) ?_
  refine XS.go (s_puti rfl xf12_224 (LY.lt (by simp only [LY_si, LY_sj]; exact L0) (by decide)) (LY.k1262 (by simp only [LY_si, LY_sj]; exact L0)) (by decide) rfl (Or.inl rfl)) ?_
  refine XS.go (s_aloadn rfl rfl rfl) ?_
  refine XS.go (s_iconst (v := 0) rfl rfl) ?_
  refine XS.go (s_puti rfl xf12_247 (LY.lt (by simp only [LY_si, LY_sj]; exact L0) (by decide)) (LY.k1262 (by simp only [LY_si, LY_sj]; exact L0)) (by decide) rfl (Or.inl rfl)) ?_
  refine XS.go (s_aloadn rfl rfl rfl) ?_
  refine XS.go (s_iconst (v := 0) rfl rfl) ?_
  refine XS.go (s_puti rfl xf12_254 (LY.lt (by simp only [LY_si, LY_sj]; exact L0) (by decide)) (LY.k1262 (by simp only [LY_si, LY_sj]; exact L0)) (by decide) rfl (Or.inl rfl)) ?_
  refine XS.go (s_aloadn rfl rfl rfl) ?_
  refine XS.go (s_iconst (v := 0) rfl rfl) ?_
  refine XS.go (s_puti rfl xf12_257 (LY.lt (by simp only [LY_si, LY_sj]; exact L0) (by decide)) (LY.k1262 (by simp only [LY_si, LY_sj]; exact L0)) (by decide) rfl (Or.inl rfl)) ?_
  refine XS.go (s_aloadn rfl rfl rfl) ?_
  refine XS.go (s_iconst (v := 0) rfl rfl) ?_
  refine XS.go (s_puti rfl xf12_260 (LY.lt (by simp only [LY_si, LY_sj]; exact L0) (by decide)) (LY.k1262 (by simp only [LY_si, LY_sj]; exact L0)) (by decide) rfl (Or.inl rfl)) ?_
  refine XS.go (s_aloadn rfl rfl rfl) ?_
  refine XS.go (s_iconst (v := 0) rfl rfl) ?_
  refine XS.go (s_puti rfl xf12_263 (LY.lt (by simp only [LY_si, LY_sj]; exact L0) (by decide)) (LY.k1262 (by simp only [LY_si, LY_sj]; exact L0)) (by decide) rfl (Or.inl rfl)) ?_
  refine XS.go (s_aloadn rfl rfl rfl) ?_
  replace hf := xb_some hf
  obtain ⟨r47, e48, hf⟩ := hf
  refine r_callv rfl xvX12_cut xm12_266 (kf_m_cut (d := d) (by simp only [LY_si, LY_sj]; exact L0) e48) (LY.lt (by simp only [LY_si, LY_sj]; exact L0) (by decide)) (LY.k1262 (by simp only [LY_si, LY_sj]; exact L0)) (by decide) rfl rfl (dl (by decide)) (by decide) (Nat.le_of_ble_eq_true rfl) ?_
  rintro _ _ ⟨⟨rfl, rfl⟩, L49⟩
  exact XR.forget (L2 := [some (.ref 1262), none]) ⟨rfl, trivial⟩ (kb_m_parse_39 L49 hf)
def f_m_empty (h : XH) : Option (Unit × XH) := (some ((), (hsi (hsi (hsi (hsi (hsi h 1262 57 0) 1262 58 4) 1262 59 0) 1262 64 0) 1262 67 (-1))))
set_option maxRecDepth 20000 in
theorem kf_m_empty {l : Launch} {G : XG} {d : Nat} {h : XH} {r : Unit × XH} (L0 : LY h) (hf : f_m_empty h = some r) : XC l G xEX12_empty d [.ref 1262] h (fun v h2 => (h2 = r.2 ∧ v = none) ∧ LY r.2) := by
  refine XC.virt xvX12_empty (Nat.le_of_ble_eq_true rfl) ?_
  unfold f_m_empty at hf
  refine XR.norm (L3 := [some (.ref 1262)]) rfl ?_
  refine XS.go (s_aloadn rfl rfl rfl) ?_
  refine XS.go (s_iconst (v := 0) rfl rfl) ?_
  refine XS.go (s_puti rfl xf12_382 (LY.lt L0 (by decide)) (LY.k1262 L0) (by decide) rfl (Or.inl rfl)) ?_
  refine XS.go (s_aloadn rfl rfl rfl) ?_
  refine XS.go (s_iconst (v := 4) rfl rfl) ?_
  refine XS.go (s_puti rfl xf12_385 (LY.lt (by simp only [LY_si, LY_sj]; exact L0) (by decide)) (LY.k1262 (by simp only [LY_si, LY_sj]; exact L0)) (by decide) rfl (Or.inl rfl)) ?_
  refine XS.go (s_aloadn rfl rfl rfl) ?_
  refine XS.go (s_iconst (v := 0) rfl rfl) ?_
  refine XS.go (s_puti rfl xf12_388 (LY.lt (by simp only [LY_si, LY_sj]; exact L0) (by decide)) (LY.k1262 (by simp only [LY_si, LY_sj]; exact L0)) (by decide) rfl (Or.inl rfl)) ?_
  refine XS.go (s_aloadn rfl rfl rfl) ?_
  refine XS.go (s_iconst (v := 0) rfl rfl) ?_
  refine XS.go (s_puti rfl xf12_391 (LY.lt (by simp only [LY_si, LY_sj]; exact L0) (by decide)) (LY.k1262 (by simp only [LY_si, LY_sj]; exact L0)) (by decide) rfl (Or.inl rfl)) ?_
  refine XS.go (s_aloadn rfl rfl rfl) ?_
  refine XS.go (s_iconst (v := (-1)) rfl rfl) ?_
  refine XS.go (s_puti rfl xf12_140 (LY.lt (by simp only [LY_si, LY_sj]; exact L0) (by decide)) (LY.k1262 (by simp only [LY_si, LY_sj]; exact L0)) (by decide) rfl (Or.inl rfl)) ?_
  cases hf
  exact XR.retv rfl rfl (fun hret => ⟨_, hret, ⟨rfl, rfl⟩, (by simp only [LY_si, LY_sj]; exact L0)⟩)
def s_m_schema_140 (K140 : Int32 → XH → Option (Int32 × XH)) (x1 : Int32) (h : XH) : Option (Int32 × XH) := (if (hi h 1262 5) ≤ x1 then (Option.bind (f_m_empty (hsi (hsi h 1262 6 (hi h 1262 5)) 1262 7 1)) fun r2 => (some ((hi r2.2 1262 31), (hsi r2.2 1262 81 0)))) else (if 0 ≤ x1 ∧ x1 < nI 4000 then (K140 (x1 + 1) (hsi h 1265 (Int32.toNatClampNeg x1) (hi h 1264 (Int32.toNatClampNeg x1)))) else none))
set_option maxRecDepth 20000 in
theorem ks_m_schema_140 {l : Launch} {G : XG} {d : Nat} {K140 : Int32 → XH → Option (Int32 × XH)} {x1 : Int32} {h : XH} {r : Int32 × XH} (hK140 : ∀ (x1 : Int32) (h : XH), LY h → K140 x1 h = some r → XR l G xEX12_schema (d + 8) (140, [some (.ref 1262), some (.int x1)], [], h) (fun C => ∃ v, xRet xEX12_schema C v ∧ (C.2.2.2 = r.2 ∧ v = some (.int r.1)) ∧ LY r.2)) (L0 : LY h) (hf : s_m_schema_140 K140 x1 h = some r) : XR l G xEX12_schema (d + 8) (140, [some (.ref 1262), some (.int x1)], [], h) (fun C => ∃ v, xRet xEX12_schema C v ∧ (C.2.2.2 = r.2 ∧ v = some (.int r.1)) ∧ LY r.2) := by
  unfold s_m_schema_140 at hf
  refine XS.go (s_iloadn rfl rfl rfl) ?_
  refine XS.go (s_aloadn rfl rfl rfl) ?_
  refine XS.go (s_getie rfl xf12_181 (LY.lt L0 (by decide)) (LY.k1262 L0) (by decide) rfl rfl) ?_
  refine r_icmp_ge (tgt := 166) rfl rfl (fun qc1 => ?_) (fun qc1 => ?_)
  · replace hf := xi_pos hf qc1
    refine XS.go (s_aloadn rfl rfl rfl) ?_
    refine XS.go (s_aloadn rfl rfl rfl) ?_
    refine XS.go (s_getie rfl xf12_181 (LY.lt L0 (by decide)) (LY.k1262 L0) (by decide) rfl rfl) ?_
    refine XS.go (s_puti rfl xf12_350 (LY.lt L0 (by decide)) (LY.k1262 L0) (by decide) rfl (Or.inl rfl)) ?_
    refine XS.go (s_aloadn rfl rfl rfl) ?_
    refine XS.go (s_iconst (v := 1) rfl rfl) ?_
    refine XS.go (s_putz rfl xf12_353 (LY.lt (by simp only [LY_si, LY_sj]; exact L0) (by decide)) (LY.k1262 (by simp only [LY_si, LY_sj]; exact L0)) (by decide) rfl (Or.inl rfl) (by decide)) ?_
    refine XS.go (s_aloadn rfl rfl rfl) ?_
    replace hf := xb_some hf
    obtain ⟨r2, e3, hf⟩ := hf
    refine r_callv rfl xvX12_empty xm12_357 (kf_m_empty (d := d) (by simp only [LY_si, LY_sj]; exact L0) e3) (LY.lt (by simp only [LY_si, LY_sj]; exact L0) (by decide)) (LY.k1262 (by simp only [LY_si, LY_sj]; exact L0)) (by decide) rfl rfl (dl0 (by decide)) (by decide) (Nat.le_of_ble_eq_true rfl) ?_
    rintro _ _ ⟨⟨rfl, rfl⟩, L4⟩
    refine XS.go (s_aloadn rfl rfl rfl) ?_
    refine XS.go (s_iconst (v := 0) rfl rfl) ?_
    refine XS.go (s_putz rfl xf12_360 (LY.lt L4 (by decide)) (LY.k1262 L4) (by decide) rfl (Or.inl rfl) (by decide)) ?_
    refine XS.go (s_aloadn rfl rfl rfl) ?_
    refine XS.go (s_getie rfl xf12_257 (LY.lt (by simp only [LY_si, LY_sj]; exact L4) (by decide)) (LY.k1262 (by simp only [LY_si, LY_sj]; exact L4)) (by decide) rfl (hi_hsi_nk (by decide))) ?_
    cases hf
    exact XR.reti rfl rfl (fun hret => ⟨_, hret, ⟨rfl, rfl⟩, (by simp only [LY_si, LY_sj]; exact L4)⟩)
  · replace hf := xi_neg hf qc1
    refine XS.go (s_aloadn rfl rfl rfl) ?_
    refine XS.go (s_getr rfl xf12_16 (LY.lt L0 (by decide)) (LY.k1262 L0) (by decide) rfl (LY.r1262_4 L0)) ?_
    refine XS.go (s_iloadn rfl rfl rfl) ?_
    refine XS.go (s_aloadn rfl rfl rfl) ?_
    refine XS.go (s_getr rfl xf12_13 (LY.lt L0 (by decide)) (LY.k1262 L0) (by decide) rfl (LY.r1262_3 L0)) ?_
    refine XS.go (s_iloadn rfl rfl rfl) ?_
    replace hf := xi_none hf
    obtain ⟨qk5, hf⟩ := hf
    refine XS.go (s_ialde rfl (LY.lt L0 (by decide)) (LY.k1264 L0) (inLit (LY.n1264 L0) qk5.1 qk5.2 (by decide)) rfl) ?_
    refine XS.go (s_iast rfl (LY.lt L0 (by decide)) (LY.k1265 L0) (inLit (LY.n1265 L0) qk5.1 qk5.2 (by decide))) ?_
    refine XS.go (XS.lcl (L3 := [some (.ref 1262), some (.int (x1 + 1))]) (s_inc rfl rfl (Nat.le_of_ble_eq_true rfl)) rfl) ?_
    refine XS.go (s_goto (tgt := 140) rfl rfl) ?_
    exact XR.forget (L2 := [some (.ref 1262), some (.int (x1 + 1))]) ⟨rfl, ⟨rfl, trivial⟩⟩ (hK140 (x1 + 1) _ (by simp only [LY_si, LY_sj]; exact L0) hf)
def b_m_schema_140 : Nat → Int32 → XH → Option (Int32 × XH)
  | 0, _, _ => none
  | n + 1, x1, h => s_m_schema_140 (b_m_schema_140 n) x1 h
theorem kb_m_schema_140 {l : Launch} {G : XG} {d : Nat} {n : Nat} {x1 : Int32} {h : XH} {r : Int32 × XH} (L0 : LY h) (hf : b_m_schema_140 n x1 h = some r) : XR l G xEX12_schema (d + 8) (140, [some (.ref 1262), some (.int x1)], [], h) (fun C => ∃ v, xRet xEX12_schema C v ∧ (C.2.2.2 = r.2 ∧ v = some (.int r.1)) ∧ LY r.2) := by
  induction n generalizing x1 h with
  | zero => cases hf
  | succ n ih => exact ks_m_schema_140 (fun x1 h L0 hf => ih (h := h) (x1 := x1) L0 hf) L0 hf
def s_m_schema_99 (K99 : Int32 → XH → Option (Int32 × XH)) (x1 : Int32) (h : XH) : Option (Int32 × XH) := (if (hi h 1262 5) ≤ x1 then (if (hi h 1262 7) = 0 then (some (0, h)) else (Option.bind (f_m_parse h) fun r8 => (some (0, r8.2)))) else (if 0 ≤ x1 ∧ x1 < nI 4000 then (K99 (x1 + 1) (hsi h 1264 (Int32.toNatClampNeg x1) (hi h 1265 (Int32.toNatClampNeg x1)))) else none))
set_option maxRecDepth 20000 in
theorem ks_m_schema_99 {l : Launch} {G : XG} {d : Nat} {K99 : Int32 → XH → Option (Int32 × XH)} {x1 : Int32} {h : XH} {r : Int32 × XH} (hK99 : ∀ (x1 : Int32) (h : XH), LY h → K99 x1 h = some r → XR l G xEX12_schema (d + 8) (99, [some (.ref 1262), some (.int x1)], [], h) (fun C => ∃ v, xRet xEX12_schema C v ∧ (C.2.2.2 = r.2 ∧ v = some (.int r.1)) ∧ LY r.2)) (L0 : LY h) (hf : s_m_schema_99 K99 x1 h = some r) : XR l G xEX12_schema (d + 8) (99, [some (.ref 1262), some (.int x1)], [], h) (fun C => ∃ v, xRet xEX12_schema C v ∧ (C.2.2.2 = r.2 ∧ v = some (.int r.1)) ∧ LY r.2) := by
  unfold s_m_schema_99 at hf
  refine XS.go (s_iloadn rfl rfl rfl) ?_
  refine XS.go (s_aloadn rfl rfl rfl) ?_
  refine XS.go (s_getie rfl xf12_181 (LY.lt L0 (by decide)) (LY.k1262 L0) (by decide) rfl rfl) ?_
  refine r_icmp_ge (tgt := 125) rfl rfl (fun qc6 => ?_) (fun qc6 => ?_)
  · replace hf := xi_pos hf qc6
    refine XS.go (s_aloadn rfl rfl rfl) ?_
    refine XS.go (s_getze rfl xf12_353 (LY.lt L0 (by decide)) (LY.k1262 L0) (by decide) rfl rfl) ?_
    refine r_if_eq (tgt := 136) rfl rfl (fun qc7 => ?_) (fun qc7 => ?_)
    · replace hf := xi_pos hf qc7
      refine XS.go (s_iconst (v := 0) rfl rfl) ?_
      cases hf
      exact XR.reti rfl rfl (fun hret => ⟨_, hret, ⟨rfl, rfl⟩, L0⟩)
    · replace hf := xi_neg hf qc7
      refine XS.go (s_aloadn rfl rfl rfl) ?_
      replace hf := xb_some hf
      obtain ⟨r8, e9, hf⟩ := hf
      refine r_callv rfl xvX12_parse xm12_341 (kf_m_parse (d := d) L0 e9) (LY.lt L0 (by decide)) (LY.k1262 L0) (by decide) rfl rfl (dl (by decide)) (by decide) (Nat.le_of_ble_eq_true rfl) ?_
      rintro _ _ ⟨⟨rfl, rfl⟩, L10⟩
      refine XS.go (s_iconst (v := 0) rfl rfl) ?_
      cases hf
      exact XR.reti rfl rfl (fun hret => ⟨_, hret, ⟨rfl, rfl⟩, L10⟩)
  · replace hf := xi_neg hf qc6
    refine XS.go (s_aloadn rfl rfl rfl) ?_
    refine XS.go (s_getr rfl xf12_13 (LY.lt L0 (by decide)) (LY.k1262 L0) (by decide) rfl (LY.r1262_3 L0)) ?_
    refine XS.go (s_iloadn rfl rfl rfl) ?_
    refine XS.go (s_aloadn rfl rfl rfl) ?_
    refine XS.go (s_getr rfl xf12_16 (LY.lt L0 (by decide)) (LY.k1262 L0) (by decide) rfl (LY.r1262_4 L0)) ?_
    refine XS.go (s_iloadn rfl rfl rfl) ?_
    replace hf := xi_none hf
    obtain ⟨qk11, hf⟩ := hf
    refine XS.go (s_ialde rfl (LY.lt L0 (by decide)) (LY.k1265 L0) (inLit (LY.n1265 L0) qk11.1 qk11.2 (by decide)) rfl) ?_
    refine XS.go (s_iast rfl (LY.lt L0 (by decide)) (LY.k1264 L0) (inLit (LY.n1264 L0) qk11.1 qk11.2 (by decide))) ?_
    refine XS.go (XS.lcl (L3 := [some (.ref 1262), some (.int (x1 + 1))]) (s_inc rfl rfl (Nat.le_of_ble_eq_true rfl)) rfl) ?_
    refine XS.go (s_goto (tgt := 99) rfl rfl) ?_
    exact XR.forget (L2 := [some (.ref 1262), some (.int (x1 + 1))]) ⟨rfl, ⟨rfl, trivial⟩⟩ (hK99 (x1 + 1) _ (by simp only [LY_si, LY_sj]; exact L0) hf)
def b_m_schema_99 : Nat → Int32 → XH → Option (Int32 × XH)
  | 0, _, _ => none
  | n + 1, x1, h => s_m_schema_99 (b_m_schema_99 n) x1 h
theorem kb_m_schema_99 {l : Launch} {G : XG} {d : Nat} {n : Nat} {x1 : Int32} {h : XH} {r : Int32 × XH} (L0 : LY h) (hf : b_m_schema_99 n x1 h = some r) : XR l G xEX12_schema (d + 8) (99, [some (.ref 1262), some (.int x1)], [], h) (fun C => ∃ v, xRet xEX12_schema C v ∧ (C.2.2.2 = r.2 ∧ v = some (.int r.1)) ∧ LY r.2) := by
  induction n generalizing x1 h with
  | zero => cases hf
  | succ n ih => exact ks_m_schema_99 (fun x1 h L0 hf => ih (h := h) (x1 := x1) L0 hf) L0 hf
def b_m_schema_74 (y1 : Int32) (h : XH) : Option (Int32 × XH) := (if (hi h 1262 14) = 0 then (b_m_schema_140 100000 0 (hsi h 1262 51 y1)) else (b_m_schema_99 100000 0 (hsi (hsi (hsi h 1262 51 y1) 1262 0 1) 1262 5 (hi h 1262 6))))
set_option maxRecDepth 20000 in
theorem kb_m_schema_74 {l : Launch} {G : XG} {d : Nat} {y1 : Int32} {h : XH} {r : Int32 × XH} (L0 : LY h) (hf : b_m_schema_74 y1 h = some r) : XR l G xEX12_schema (d + 8) (74, [some (.ref 1262), none], [(.int y1), (.ref 1262)], h) (fun C => ∃ v, xRet xEX12_schema C v ∧ (C.2.2.2 = r.2 ∧ v = some (.int r.1)) ∧ LY r.2) := by
  unfold b_m_schema_74 at hf
  refine XS.go (s_puti rfl xf12_347 (LY.lt L0 (by decide)) (LY.k1262 L0) (by decide) rfl (Or.inl rfl)) ?_
  refine XS.go (s_aloadn rfl rfl rfl) ?_
  refine XS.go (s_getie rfl xf12_221 (LY.lt (by simp only [LY_si, LY_sj]; exact L0) (by decide)) (LY.k1262 (by simp only [LY_si, LY_sj]; exact L0)) (by decide) rfl (hi_hsi_nk (by decide))) ?_
  refine r_if_eq (tgt := 138) rfl rfl (fun qc12 => ?_) (fun qc12 => ?_)
  · replace hf := xi_pos hf qc12
    refine XS.go (s_iconst (v := 0) rfl rfl) ?_
    refine XS.go (XS.lcl (L3 := [some (.ref 1262), some (.int 0)]) (s_istoren rfl rfl (Nat.le_of_ble_eq_true rfl)) rfl) ?_
    exact XR.forget (L2 := [some (.ref 1262), some (.int 0)]) ⟨rfl, ⟨rfl, trivial⟩⟩ (kb_m_schema_140 (by simp only [LY_si, LY_sj]; exact L0) hf)
  · replace hf := xi_neg hf qc12
    refine XS.go (s_aloadn rfl rfl rfl) ?_
    refine XS.go (s_iconst (v := 1) rfl rfl) ?_
    refine XS.go (s_puti rfl xf12_175 (LY.lt (by simp only [LY_si, LY_sj]; exact L0) (by decide)) (LY.k1262 (by simp only [LY_si, LY_sj]; exact L0)) (by decide) rfl (Or.inl rfl)) ?_
    refine XS.go (s_aloadn rfl rfl rfl) ?_
    refine XS.go (s_aloadn rfl rfl rfl) ?_
    refine XS.go (s_getie rfl xf12_350 (LY.lt (by simp only [LY_si, LY_sj]; exact L0) (by decide)) (LY.k1262 (by simp only [LY_si, LY_sj]; exact L0)) (by decide) rfl ((hi_hsi_nk (by decide)).trans (hi_hsi_nk (by decide)))) ?_
    refine XS.go (s_puti rfl xf12_181 (LY.lt (by simp only [LY_si, LY_sj]; exact L0) (by decide)) (LY.k1262 (by simp only [LY_si, LY_sj]; exact L0)) (by decide) rfl (Or.inl rfl)) ?_
    refine XS.go (s_iconst (v := 0) rfl rfl) ?_
    refine XS.go (XS.lcl (L3 := [some (.ref 1262), some (.int 0)]) (s_istoren rfl rfl (Nat.le_of_ble_eq_true rfl)) rfl) ?_
    exact XR.forget (L2 := [some (.ref 1262), some (.int 0)]) ⟨rfl, ⟨rfl, trivial⟩⟩ (kb_m_schema_99 (by simp only [LY_si, LY_sj]; exact L0) hf)
def s_m_schema_7 (K7 : Int32 → XH → Option (Int32 × XH)) (x1 : Int32) (h : XH) : Option (Int32 × XH) := (if (hi h 1262 2) ≤ x1 then (Option.bind (f_m_parse (hsi (hsi h 1262 5 (hi h 1262 2)) 1262 2 0)) fun r14 => (if ¬ (hi r14.2 1262 14) = 0 then (b_m_schema_74 (hi r14.2 1262 15) (hsi r14.2 1262 50 (hi r14.2 1262 14))) else (b_m_schema_74 0 (hsi r14.2 1262 50 (hi r14.2 1262 14))))) else (if 0 ≤ x1 ∧ x1 < nI 4000 then (K7 (x1 + 1) (hsi h 1264 (Int32.toNatClampNeg x1) (hi h 1263 (Int32.toNatClampNeg x1)))) else none))
set_option maxRecDepth 20000 in
theorem ks_m_schema_7 {l : Launch} {G : XG} {d : Nat} {K7 : Int32 → XH → Option (Int32 × XH)} {x1 : Int32} {h : XH} {r : Int32 × XH} (hK7 : ∀ (x1 : Int32) (h : XH), LY h → K7 x1 h = some r → XR l G xEX12_schema (d + 8) (7, [some (.ref 1262), some (.int x1)], [], h) (fun C => ∃ v, xRet xEX12_schema C v ∧ (C.2.2.2 = r.2 ∧ v = some (.int r.1)) ∧ LY r.2)) (L0 : LY h) (hf : s_m_schema_7 K7 x1 h = some r) : XR l G xEX12_schema (d + 8) (7, [some (.ref 1262), some (.int x1)], [], h) (fun C => ∃ v, xRet xEX12_schema C v ∧ (C.2.2.2 = r.2 ∧ v = some (.int r.1)) ∧ LY r.2) := by
  unfold s_m_schema_7 at hf
  refine XS.go (s_iloadn rfl rfl rfl) ?_
  refine XS.go (s_aloadn rfl rfl rfl) ?_
  refine XS.go (s_getie rfl xf12_178 (LY.lt L0 (by decide)) (LY.k1262 L0) (by decide) rfl rfl) ?_
  refine r_icmp_ge (tgt := 33) rfl rfl (fun qc13 => ?_) (fun qc13 => ?_)
  · replace hf := xi_pos hf qc13
    refine XS.go (s_aloadn rfl rfl rfl) ?_
    refine XS.go (s_aloadn rfl rfl rfl) ?_
    refine XS.go (s_getie rfl xf12_178 (LY.lt L0 (by decide)) (LY.k1262 L0) (by decide) rfl rfl) ?_
    refine XS.go (s_puti rfl xf12_181 (LY.lt L0 (by decide)) (LY.k1262 L0) (by decide) rfl (Or.inl rfl)) ?_
    refine XS.go (s_aloadn rfl rfl rfl) ?_
    refine XS.go (s_iconst (v := 0) rfl rfl) ?_
    refine XS.go (s_puti rfl xf12_178 (LY.lt (by simp only [LY_si, LY_sj]; exact L0) (by decide)) (LY.k1262 (by simp only [LY_si, LY_sj]; exact L0)) (by decide) rfl (Or.inl rfl)) ?_
    refine XS.go (s_aloadn rfl rfl rfl) ?_
    replace hf := xb_some hf
    obtain ⟨r14, e15, hf⟩ := hf
    refine r_callv rfl xvX12_parse xm12_341 (kf_m_parse (d := d) (by simp only [LY_si, LY_sj]; exact L0) e15) (LY.lt (by simp only [LY_si, LY_sj]; exact L0) (by decide)) (LY.k1262 (by simp only [LY_si, LY_sj]; exact L0)) (by decide) rfl rfl (dl (by decide)) (by decide) (Nat.le_of_ble_eq_true rfl) ?_
    rintro _ _ ⟨⟨rfl, rfl⟩, L16⟩
    refine XS.go (s_aloadn rfl rfl rfl) ?_
    refine XS.go (s_aloadn rfl rfl rfl) ?_
    refine XS.go (s_getie rfl xf12_221 (LY.lt L16 (by decide)) (LY.k1262 L16) (by decide) rfl rfl) ?_
    refine XS.go (s_puti rfl xf12_344 (LY.lt L16 (by decide)) (LY.k1262 L16) (by decide) rfl (Or.inl rfl)) ?_
    refine XS.go (s_aloadn rfl rfl rfl) ?_
    refine XS.go (s_aloadn rfl rfl rfl) ?_
    refine XS.go (s_getie rfl xf12_221 (LY.lt (by simp only [LY_si, LY_sj]; exact L16) (by decide)) (LY.k1262 (by simp only [LY_si, LY_sj]; exact L16)) (by decide) rfl (hi_hsi_nk (by decide))) ?_
    refine r_if_ne (tgt := 70) rfl rfl (fun qc17 => ?_) (fun qc17 => ?_)
    · replace hf := xi_pos hf qc17
      refine XS.go (s_aloadn rfl rfl rfl) ?_
      refine XS.go (s_getie rfl xf12_227 (LY.lt (by simp only [LY_si, LY_sj]; exact L16) (by decide)) (LY.k1262 (by simp only [LY_si, LY_sj]; exact L16)) (by decide) rfl (hi_hsi_nk (by decide))) ?_
      exact XR.forget (L2 := [some (.ref 1262), none]) ⟨rfl, trivial⟩ (kb_m_schema_74 (by simp only [LY_si, LY_sj]; exact L16) hf)
    · replace hf := xi_neg hf qc17
      refine XS.go (s_iconst (v := 0) rfl rfl) ?_
      refine XS.go (s_goto (tgt := 74) rfl rfl) ?_
      exact XR.forget (L2 := [some (.ref 1262), none]) ⟨rfl, trivial⟩ (kb_m_schema_74 (by simp only [LY_si, LY_sj]; exact L16) hf)
  · replace hf := xi_neg hf qc13
    refine XS.go (s_aloadn rfl rfl rfl) ?_
    refine XS.go (s_getr rfl xf12_13 (LY.lt L0 (by decide)) (LY.k1262 L0) (by decide) rfl (LY.r1262_3 L0)) ?_
    refine XS.go (s_iloadn rfl rfl rfl) ?_
    refine XS.go (s_aloadn rfl rfl rfl) ?_
    refine XS.go (s_getr rfl xf12_9 (LY.lt L0 (by decide)) (LY.k1262 L0) (by decide) rfl (LY.r1262_1 L0)) ?_
    refine XS.go (s_iloadn rfl rfl rfl) ?_
    replace hf := xi_none hf
    obtain ⟨qk18, hf⟩ := hf
    refine XS.go (s_ialde rfl (LY.lt L0 (by decide)) (LY.k1263 L0) (inLit (LY.n1263 L0) qk18.1 qk18.2 (by decide)) rfl) ?_
    refine XS.go (s_iast rfl (LY.lt L0 (by decide)) (LY.k1264 L0) (inLit (LY.n1264 L0) qk18.1 qk18.2 (by decide))) ?_
    refine XS.go (XS.lcl (L3 := [some (.ref 1262), some (.int (x1 + 1))]) (s_inc rfl rfl (Nat.le_of_ble_eq_true rfl)) rfl) ?_
    refine XS.go (s_goto (tgt := 7) rfl rfl) ?_
    exact XR.forget (L2 := [some (.ref 1262), some (.int (x1 + 1))]) ⟨rfl, ⟨rfl, trivial⟩⟩ (hK7 (x1 + 1) _ (by simp only [LY_si, LY_sj]; exact L0) hf)
def b_m_schema_7 : Nat → Int32 → XH → Option (Int32 × XH)
  | 0, _, _ => none
  | n + 1, x1, h => s_m_schema_7 (b_m_schema_7 n) x1 h
theorem kb_m_schema_7 {l : Launch} {G : XG} {d : Nat} {n : Nat} {x1 : Int32} {h : XH} {r : Int32 × XH} (L0 : LY h) (hf : b_m_schema_7 n x1 h = some r) : XR l G xEX12_schema (d + 8) (7, [some (.ref 1262), some (.int x1)], [], h) (fun C => ∃ v, xRet xEX12_schema C v ∧ (C.2.2.2 = r.2 ∧ v = some (.int r.1)) ∧ LY r.2) := by
  induction n generalizing x1 h with
  | zero => cases hf
  | succ n ih => exact ks_m_schema_7 (fun x1 h L0 hf => ih (h := h) (x1 := x1) L0 hf) L0 hf
def f_m_schema (h : XH) : Option (Int32 × XH) := (b_m_schema_7 100000 0 (hsi h 1262 0 0))
set_option maxRecDepth 20000 in
theorem kf_m_schema {l : Launch} {G : XG} {d : Nat} {h : XH} {r : Int32 × XH} (L0 : LY h) (hf : f_m_schema h = some r) : XC l G xEX12_schema (d + 8) [.ref 1262] h (fun v h2 => (h2 = r.2 ∧ v = some (.int r.1)) ∧ LY r.2) := by
  refine XC.virt xvX12_schema (Nat.le_of_ble_eq_true rfl) ?_
  unfold f_m_schema at hf
  refine XR.norm (L3 := [some (.ref 1262), none]) rfl ?_
  refine XS.go (s_aloadn rfl rfl rfl) ?_
  refine XS.go (s_iconst (v := 0) rfl rfl) ?_
  refine XS.go (s_puti rfl xf12_175 (LY.lt L0 (by decide)) (LY.k1262 L0) (by decide) rfl (Or.inl rfl)) ?_
  refine XS.go (s_iconst (v := 0) rfl rfl) ?_
  refine XS.go (XS.lcl (L3 := [some (.ref 1262), some (.int 0)]) (s_istoren rfl rfl (Nat.le_of_ble_eq_true rfl)) rfl) ?_
  exact XR.forget (L2 := [some (.ref 1262), some (.int 0)]) ⟨rfl, ⟨rfl, trivial⟩⟩ (kb_m_schema_7 (by simp only [LY_si, LY_sj]; exact L0) hf)
def f_m_fault (a0 : Int32) (h : XH) : Option (Int32 × XH) := (if ¬ a0 = 0 then (if ¬ a0 = 1 then (if ¬ a0 = 2 then (if ¬ a0 = 3 then (some ((-1), (hsi h 1262 0 0))) else (some ((hi h 1262 53), (hsi h 1262 0 0)))) else (some ((hi h 1262 52), (hsi h 1262 0 0)))) else (some ((hi h 1262 51), (hsi h 1262 0 0)))) else (some ((hi h 1262 50), (hsi h 1262 0 0))))
set_option maxRecDepth 20000 in
theorem kf_m_fault {l : Launch} {G : XG} {d : Nat} {a0 : Int32} {h : XH} {r : Int32 × XH} (L0 : LY h) (hf : f_m_fault a0 h = some r) : XC l G xEX12_fault d [.ref 1262, .int a0] h (fun v h2 => (h2 = r.2 ∧ v = some (.int r.1)) ∧ LY r.2) := by
  refine XC.virt xvX12_fault (Nat.le_of_ble_eq_true rfl) ?_
  unfold f_m_fault at hf
  refine XR.norm (L3 := [some (.ref 1262), some (.int a0)]) rfl ?_
  refine XS.go (s_aloadn rfl rfl rfl) ?_
  refine XS.go (s_iconst (v := 0) rfl rfl) ?_
  refine XS.go (s_puti rfl xf12_175 (LY.lt L0 (by decide)) (LY.k1262 L0) (by decide) rfl (Or.inl rfl)) ?_
  refine XS.go (s_iloadn rfl rfl rfl) ?_
  refine r_if_ne (tgt := 16) rfl rfl (fun qc1 => ?_) (fun qc1 => ?_)
  · replace hf := xi_pos hf qc1
    refine XS.go (s_iloadn rfl rfl rfl) ?_
    refine XS.go (s_iconst (v := 1) rfl rfl) ?_
    refine r_icmp_ne (tgt := 28) rfl rfl (fun qc2 => ?_) (fun qc2 => ?_)
    · replace hf := xi_pos hf qc2
      refine XS.go (s_iloadn rfl rfl rfl) ?_
      refine XS.go (s_iconst (v := 2) rfl rfl) ?_
      refine r_icmp_ne (tgt := 40) rfl rfl (fun qc3 => ?_) (fun qc3 => ?_)
      · replace hf := xi_pos hf qc3
        refine XS.go (s_iloadn rfl rfl rfl) ?_
        refine XS.go (s_iconst (v := 3) rfl rfl) ?_
        refine r_icmp_ne (tgt := 52) rfl rfl (fun qc4 => ?_) (fun qc4 => ?_)
        · replace hf := xi_pos hf qc4
          refine XS.go (s_iconst (v := (-1)) rfl rfl) ?_
          cases hf
          exact XR.reti rfl rfl (fun hret => ⟨_, hret, ⟨rfl, rfl⟩, (by simp only [LY_si, LY_sj]; exact L0)⟩)
        · replace hf := xi_neg hf qc4
          refine XS.go (s_aloadn rfl rfl rfl) ?_
          refine XS.go (s_getie rfl xf12_366 (LY.lt (by simp only [LY_si, LY_sj]; exact L0) (by decide)) (LY.k1262 (by simp only [LY_si, LY_sj]; exact L0)) (by decide) rfl (hi_hsi_nk (by decide))) ?_
          refine XS.go (s_goto (tgt := 53) rfl rfl) ?_
          cases hf
          exact XR.reti rfl rfl (fun hret => ⟨_, hret, ⟨rfl, rfl⟩, (by simp only [LY_si, LY_sj]; exact L0)⟩)
      · replace hf := xi_neg hf qc3
        refine XS.go (s_aloadn rfl rfl rfl) ?_
        refine XS.go (s_getie rfl xf12_363 (LY.lt (by simp only [LY_si, LY_sj]; exact L0) (by decide)) (LY.k1262 (by simp only [LY_si, LY_sj]; exact L0)) (by decide) rfl (hi_hsi_nk (by decide))) ?_
        refine XS.go (s_goto (tgt := 53) rfl rfl) ?_
        cases hf
        exact XR.reti rfl rfl (fun hret => ⟨_, hret, ⟨rfl, rfl⟩, (by simp only [LY_si, LY_sj]; exact L0)⟩)
    · replace hf := xi_neg hf qc2
      refine XS.go (s_aloadn rfl rfl rfl) ?_
      refine XS.go (s_getie rfl xf12_347 (LY.lt (by simp only [LY_si, LY_sj]; exact L0) (by decide)) (LY.k1262 (by simp only [LY_si, LY_sj]; exact L0)) (by decide) rfl (hi_hsi_nk (by decide))) ?_
      refine XS.go (s_goto (tgt := 53) rfl rfl) ?_
      cases hf
      exact XR.reti rfl rfl (fun hret => ⟨_, hret, ⟨rfl, rfl⟩, (by simp only [LY_si, LY_sj]; exact L0)⟩)
  · replace hf := xi_neg hf qc1
    refine XS.go (s_aloadn rfl rfl rfl) ?_
    refine XS.go (s_getie rfl xf12_344 (LY.lt (by simp only [LY_si, LY_sj]; exact L0) (by decide)) (LY.k1262 (by simp only [LY_si, LY_sj]; exact L0)) (by decide) rfl (hi_hsi_nk (by decide))) ?_
    refine XS.go (s_goto (tgt := 53) rfl rfl) ?_
    cases hf
    exact XR.reti rfl rfl (fun hret => ⟨_, hret, ⟨rfl, rfl⟩, (by simp only [LY_si, LY_sj]; exact L0)⟩)
def f_m_isStruct (a0 : Int32) (h : XH) : Option (Int32 × XH) := (if (hi h 1262 7) = 0 then (some (0, h)) else (if a0 < 0 then (some (0, h)) else (if (hi h 1262 20) ≤ a0 then (some (0, h)) else (some (1, h)))))
set_option maxRecDepth 20000 in
theorem kf_m_isStruct {l : Launch} {G : XG} {d : Nat} {a0 : Int32} {h : XH} {r : Int32 × XH} (L0 : LY h) (hf : f_m_isStruct a0 h = some r) : XC l G xEX12_isStruct d [.ref 1262, .int a0] h (fun v h2 => (h2 = r.2 ∧ v = some (.int r.1)) ∧ LY r.2) := by
  refine XC.virt xvX12_isStruct (Nat.le_of_ble_eq_true rfl) ?_
  unfold f_m_isStruct at hf
  refine XR.norm (L3 := [some (.ref 1262), some (.int a0)]) rfl ?_
  refine XS.go (s_aloadn rfl rfl rfl) ?_
  refine XS.go (s_getze rfl xf12_353 (LY.lt L0 (by decide)) (LY.k1262 L0) (by decide) rfl rfl) ?_
  refine r_if_eq (tgt := 23) rfl rfl (fun qc1 => ?_) (fun qc1 => ?_)
  · replace hf := xi_pos hf qc1
    refine XS.go (s_iconst (v := 0) rfl rfl) ?_
    cases hf
    exact XR.retz rfl rfl (by decide) (fun hret => ⟨_, hret, ⟨rfl, rfl⟩, L0⟩)
  · replace hf := xi_neg hf qc1
    refine XS.go (s_iloadn rfl rfl rfl) ?_
    refine r_if_lt (tgt := 23) rfl rfl (fun qc2 => ?_) (fun qc2 => ?_)
    · replace hf := xi_pos hf qc2
      refine XS.go (s_iconst (v := 0) rfl rfl) ?_
      cases hf
      exact XR.retz rfl rfl (by decide) (fun hret => ⟨_, hret, ⟨rfl, rfl⟩, L0⟩)
    · replace hf := xi_neg hf qc2
      refine XS.go (s_iloadn rfl rfl rfl) ?_
      refine XS.go (s_aloadn rfl rfl rfl) ?_
      refine XS.go (s_getie rfl xf12_254 (LY.lt L0 (by decide)) (LY.k1262 L0) (by decide) rfl rfl) ?_
      refine r_icmp_ge (tgt := 23) rfl rfl (fun qc3 => ?_) (fun qc3 => ?_)
      · replace hf := xi_pos hf qc3
        refine XS.go (s_iconst (v := 0) rfl rfl) ?_
        cases hf
        exact XR.retz rfl rfl (by decide) (fun hret => ⟨_, hret, ⟨rfl, rfl⟩, L0⟩)
      · replace hf := xi_neg hf qc3
        refine XS.go (s_iconst (v := 1) rfl rfl) ?_
        refine XS.go (s_goto (tgt := 24) rfl rfl) ?_
        cases hf
        exact XR.retz rfl rfl (by decide) (fun hret => ⟨_, hret, ⟨rfl, rfl⟩, L0⟩)
def f_m_isTable (a0 : Int32) (h : XH) : Option (Int32 × XH) := (if (hi h 1262 7) = 0 then (some (0, h)) else (if a0 < 0 then (some (0, h)) else (if (hi h 1262 31) ≤ a0 then (some (0, h)) else (some (1, h)))))
set_option maxRecDepth 20000 in
theorem kf_m_isTable {l : Launch} {G : XG} {d : Nat} {a0 : Int32} {h : XH} {r : Int32 × XH} (L0 : LY h) (hf : f_m_isTable a0 h = some r) : XC l G xEX12_isTable d [.ref 1262, .int a0] h (fun v h2 => (h2 = r.2 ∧ v = some (.int r.1)) ∧ LY r.2) := by
  refine XC.virt xvX12_isTable (Nat.le_of_ble_eq_true rfl) ?_
  unfold f_m_isTable at hf
  refine XR.norm (L3 := [some (.ref 1262), some (.int a0)]) rfl ?_
  refine XS.go (s_aloadn rfl rfl rfl) ?_
  refine XS.go (s_getze rfl xf12_353 (LY.lt L0 (by decide)) (LY.k1262 L0) (by decide) rfl rfl) ?_
  refine r_if_eq (tgt := 23) rfl rfl (fun qc1 => ?_) (fun qc1 => ?_)
  · replace hf := xi_pos hf qc1
    refine XS.go (s_iconst (v := 0) rfl rfl) ?_
    cases hf
    exact XR.retz rfl rfl (by decide) (fun hret => ⟨_, hret, ⟨rfl, rfl⟩, L0⟩)
  · replace hf := xi_neg hf qc1
    refine XS.go (s_iloadn rfl rfl rfl) ?_
    refine r_if_lt (tgt := 23) rfl rfl (fun qc2 => ?_) (fun qc2 => ?_)
    · replace hf := xi_pos hf qc2
      refine XS.go (s_iconst (v := 0) rfl rfl) ?_
      cases hf
      exact XR.retz rfl rfl (by decide) (fun hret => ⟨_, hret, ⟨rfl, rfl⟩, L0⟩)
    · replace hf := xi_neg hf qc2
      refine XS.go (s_iloadn rfl rfl rfl) ?_
      refine XS.go (s_aloadn rfl rfl rfl) ?_
      refine XS.go (s_getie rfl xf12_257 (LY.lt L0 (by decide)) (LY.k1262 L0) (by decide) rfl rfl) ?_
      refine r_icmp_ge (tgt := 23) rfl rfl (fun qc3 => ?_) (fun qc3 => ?_)
      · replace hf := xi_pos hf qc3
        refine XS.go (s_iconst (v := 0) rfl rfl) ?_
        cases hf
        exact XR.retz rfl rfl (by decide) (fun hret => ⟨_, hret, ⟨rfl, rfl⟩, L0⟩)
      · replace hf := xi_neg hf qc3
        refine XS.go (s_iconst (v := 1) rfl rfl) ?_
        refine XS.go (s_goto (tgt := 24) rfl rfl) ?_
        cases hf
        exact XR.retz rfl rfl (by decide) (fun hret => ⟨_, hret, ⟨rfl, rfl⟩, L0⟩)
def f_m_size (a0 : Int32) (a1 : Int32) (h : XH) : Option (Int32 × XH) := (if a0 = 0 then (if (hi h 1262 7) = 0 then (some (0, (hsi h 1262 0 0))) else (some ((hi h 1262 20), (hsi h 1262 0 0)))) else (if a0 = 1 then (if (hi h 1262 7) = 0 then (some (0, (hsi h 1262 0 0))) else (some ((hi h 1262 31), (hsi h 1262 0 0)))) else (if a0 = 2 then (if (hi h 1262 7) = 0 then (some (0, (hsi h 1262 0 0))) else (some ((hi h 1262 41), (hsi h 1262 0 0)))) else (if a0 = 3 then (if (hi h 1262 7) = 0 then (some ((-1), (hsi h 1262 0 0))) else (some ((hi h 1262 45), (hsi h 1262 0 0)))) else (if a0 = 4 then (Option.bind (f_m_isStruct a1 (hsi h 1262 0 0)) fun r6 => (if r6.1 = 0 then (some ((-1), r6.2)) else (if 0 ≤ a1 ∧ a1 < nI 12 then (some ((hi r6.2 1273 (Int32.toNatClampNeg a1)), r6.2)) else none))) else (if a0 = 5 then (Option.bind (f_m_isStruct a1 (hsi h 1262 0 0)) fun r11 => (if r11.1 = 0 then (some ((-1), r11.2)) else (if 0 ≤ a1 ∧ a1 < nI 12 then (some ((hi r11.2 1274 (Int32.toNatClampNeg a1)), r11.2)) else none))) else (if a0 = 6 then (Option.bind (f_m_isStruct a1 (hsi h 1262 0 0)) fun r16 => (if r16.1 = 0 then (some ((-1), r16.2)) else (if 0 ≤ a1 ∧ a1 < nI 12 then (some ((hi r16.2 1275 (Int32.toNatClampNeg a1)), r16.2)) else none))) else (if a0 = 7 then (Option.bind (f_m_isTable a1 (hsi h 1262 0 0)) fun r21 => (if r21.1 = 0 then (some ((-1), r21.2)) else (if 0 ≤ a1 ∧ a1 < nI 16 then (some ((hi r21.2 1283 (Int32.toNatClampNeg a1)), r21.2)) else none))) else (if a0 = 8 then (Option.bind (f_m_isTable a1 (hsi h 1262 0 0)) fun r26 => (if r26.1 = 0 then (some ((-1), r26.2)) else (if 0 ≤ a1 ∧ a1 < nI 16 then (some ((hi r26.2 1284 (Int32.toNatClampNeg a1)), r26.2)) else none))) else (if a0 = 9 then (if (hi h 1262 7) = 0 then (some ((-1), (hsi h 1262 0 0))) else (if a1 < 0 then (some ((-1), (hsi h 1262 0 0))) else (if (hi h 1262 41) ≤ a1 then (some ((-1), (hsi h 1262 0 0))) else (if 0 ≤ a1 ∧ a1 < nI 8 then (some ((hi h 1292 (Int32.toNatClampNeg a1)), (hsi h 1262 0 0))) else none)))) else (some ((-1), (hsi h 1262 0 0)))))))))))))
set_option maxRecDepth 20000 in
theorem kf_m_size {l : Launch} {G : XG} {d : Nat} {a0 : Int32} {a1 : Int32} {h : XH} {r : Int32 × XH} (L0 : LY h) (hf : f_m_size a0 a1 h = some r) : XC l G xEX12_size (d + 1) [.ref 1262, .int a0, .int a1] h (fun v h2 => (h2 = r.2 ∧ v = some (.int r.1)) ∧ LY r.2) := by
  refine XC.virt xvX12_size (Nat.le_of_ble_eq_true rfl) ?_
  unfold f_m_size at hf
  refine XR.norm (L3 := [some (.ref 1262), some (.int a0), some (.int a1)]) rfl ?_
  refine XS.go (s_aloadn rfl rfl rfl) ?_
  refine XS.go (s_iconst (v := 0) rfl rfl) ?_
  refine XS.go (s_puti rfl xf12_175 (LY.lt L0 (by decide)) (LY.k1262 L0) (by decide) rfl (Or.inl rfl)) ?_
  refine XS.go (s_iloadn rfl rfl rfl) ?_
  by_cases qs1_0 : a0 = 0
  · replace hf := xi_pos hf qs1_0
    refine XS.go (s_tswI (tgt := 60) rfl (by rw [qs1_0]; decide) (by rw [qs1_0]; decide) (by rw [qs1_0]; rfl) rfl) ?_
    refine XS.go (s_aloadn rfl rfl rfl) ?_
    refine XS.go (s_getze rfl xf12_353 (LY.lt (by simp only [LY_si, LY_sj]; exact L0) (by decide)) (LY.k1262 (by simp only [LY_si, LY_sj]; exact L0)) (by decide) rfl (hi_hsi_nk (by decide))) ?_
    refine r_if_eq (tgt := 74) rfl rfl (fun qc2 => ?_) (fun qc2 => ?_)
    · replace hf := xi_pos hf qc2
      refine XS.go (s_iconst (v := 0) rfl rfl) ?_
      cases hf
      exact XR.reti rfl rfl (fun hret => ⟨_, hret, ⟨rfl, rfl⟩, (by simp only [LY_si, LY_sj]; exact L0)⟩)
    · replace hf := xi_neg hf qc2
      refine XS.go (s_aloadn rfl rfl rfl) ?_
      refine XS.go (s_getie rfl xf12_254 (LY.lt (by simp only [LY_si, LY_sj]; exact L0) (by decide)) (LY.k1262 (by simp only [LY_si, LY_sj]; exact L0)) (by decide) rfl (hi_hsi_nk (by decide))) ?_
      refine XS.go (s_goto (tgt := 75) rfl rfl) ?_
      cases hf
      exact XR.reti rfl rfl (fun hret => ⟨_, hret, ⟨rfl, rfl⟩, (by simp only [LY_si, LY_sj]; exact L0)⟩)
  replace hf := xi_neg hf qs1_0
  by_cases qs1_1 : a0 = 1
  · replace hf := xi_pos hf qs1_1
    refine XS.go (s_tswI (tgt := 76) rfl (by rw [qs1_1]; decide) (by rw [qs1_1]; decide) (by rw [qs1_1]; rfl) rfl) ?_
    refine XS.go (s_aloadn rfl rfl rfl) ?_
    refine XS.go (s_getze rfl xf12_353 (LY.lt (by simp only [LY_si, LY_sj]; exact L0) (by decide)) (LY.k1262 (by simp only [LY_si, LY_sj]; exact L0)) (by decide) rfl (hi_hsi_nk (by decide))) ?_
    refine r_if_eq (tgt := 90) rfl rfl (fun qc3 => ?_) (fun qc3 => ?_)
    · replace hf := xi_pos hf qc3
      refine XS.go (s_iconst (v := 0) rfl rfl) ?_
      cases hf
      exact XR.reti rfl rfl (fun hret => ⟨_, hret, ⟨rfl, rfl⟩, (by simp only [LY_si, LY_sj]; exact L0)⟩)
    · replace hf := xi_neg hf qc3
      refine XS.go (s_aloadn rfl rfl rfl) ?_
      refine XS.go (s_getie rfl xf12_257 (LY.lt (by simp only [LY_si, LY_sj]; exact L0) (by decide)) (LY.k1262 (by simp only [LY_si, LY_sj]; exact L0)) (by decide) rfl (hi_hsi_nk (by decide))) ?_
      refine XS.go (s_goto (tgt := 91) rfl rfl) ?_
      cases hf
      exact XR.reti rfl rfl (fun hret => ⟨_, hret, ⟨rfl, rfl⟩, (by simp only [LY_si, LY_sj]; exact L0)⟩)
  replace hf := xi_neg hf qs1_1
  by_cases qs1_2 : a0 = 2
  · replace hf := xi_pos hf qs1_2
    refine XS.go (s_tswI (tgt := 92) rfl (by rw [qs1_2]; decide) (by rw [qs1_2]; decide) (by rw [qs1_2]; rfl) rfl) ?_
    refine XS.go (s_aloadn rfl rfl rfl) ?_
    refine XS.go (s_getze rfl xf12_353 (LY.lt (by simp only [LY_si, LY_sj]; exact L0) (by decide)) (LY.k1262 (by simp only [LY_si, LY_sj]; exact L0)) (by decide) rfl (hi_hsi_nk (by decide))) ?_
    refine r_if_eq (tgt := 106) rfl rfl (fun qc4 => ?_) (fun qc4 => ?_)
    · replace hf := xi_pos hf qc4
      refine XS.go (s_iconst (v := 0) rfl rfl) ?_
      cases hf
      exact XR.reti rfl rfl (fun hret => ⟨_, hret, ⟨rfl, rfl⟩, (by simp only [LY_si, LY_sj]; exact L0)⟩)
    · replace hf := xi_neg hf qc4
      refine XS.go (s_aloadn rfl rfl rfl) ?_
      refine XS.go (s_getie rfl xf12_260 (LY.lt (by simp only [LY_si, LY_sj]; exact L0) (by decide)) (LY.k1262 (by simp only [LY_si, LY_sj]; exact L0)) (by decide) rfl (hi_hsi_nk (by decide))) ?_
      refine XS.go (s_goto (tgt := 107) rfl rfl) ?_
      cases hf
      exact XR.reti rfl rfl (fun hret => ⟨_, hret, ⟨rfl, rfl⟩, (by simp only [LY_si, LY_sj]; exact L0)⟩)
  replace hf := xi_neg hf qs1_2
  by_cases qs1_3 : a0 = 3
  · replace hf := xi_pos hf qs1_3
    refine XS.go (s_tswI (tgt := 108) rfl (by rw [qs1_3]; decide) (by rw [qs1_3]; decide) (by rw [qs1_3]; rfl) rfl) ?_
    refine XS.go (s_aloadn rfl rfl rfl) ?_
    refine XS.go (s_getze rfl xf12_353 (LY.lt (by simp only [LY_si, LY_sj]; exact L0) (by decide)) (LY.k1262 (by simp only [LY_si, LY_sj]; exact L0)) (by decide) rfl (hi_hsi_nk (by decide))) ?_
    refine r_if_eq (tgt := 122) rfl rfl (fun qc5 => ?_) (fun qc5 => ?_)
    · replace hf := xi_pos hf qc5
      refine XS.go (s_iconst (v := (-1)) rfl rfl) ?_
      cases hf
      exact XR.reti rfl rfl (fun hret => ⟨_, hret, ⟨rfl, rfl⟩, (by simp only [LY_si, LY_sj]; exact L0)⟩)
    · replace hf := xi_neg hf qc5
      refine XS.go (s_aloadn rfl rfl rfl) ?_
      refine XS.go (s_getie rfl xf12_338 (LY.lt (by simp only [LY_si, LY_sj]; exact L0) (by decide)) (LY.k1262 (by simp only [LY_si, LY_sj]; exact L0)) (by decide) rfl (hi_hsi_nk (by decide))) ?_
      refine XS.go (s_goto (tgt := 123) rfl rfl) ?_
      cases hf
      exact XR.reti rfl rfl (fun hret => ⟨_, hret, ⟨rfl, rfl⟩, (by simp only [LY_si, LY_sj]; exact L0)⟩)
  replace hf := xi_neg hf qs1_3
  by_cases qs1_4 : a0 = 4
  · replace hf := xi_pos hf qs1_4
    refine XS.go (s_tswI (tgt := 124) rfl (by rw [qs1_4]; decide) (by rw [qs1_4]; decide) (by rw [qs1_4]; rfl) rfl) ?_
    refine XS.go (s_aloadn rfl rfl rfl) ?_
    refine XS.go (s_iloadn rfl rfl rfl) ?_
    replace hf := xb_some hf
    obtain ⟨r6, e7, hf⟩ := hf
    refine r_callv rfl xvX12_isStruct xm12_369 (kf_m_isStruct (d := d) (by simp only [LY_si, LY_sj]; exact L0) e7) (LY.lt (by simp only [LY_si, LY_sj]; exact L0) (by decide)) (LY.k1262 (by simp only [LY_si, LY_sj]; exact L0)) (by decide) rfl rfl (dl0 (by decide)) (by decide) (Nat.le_of_ble_eq_true rfl) ?_
    rintro _ _ ⟨⟨rfl, rfl⟩, L8⟩
    refine r_if_eq (tgt := 141) rfl rfl (fun qc9 => ?_) (fun qc9 => ?_)
    · replace hf := xi_pos hf qc9
      refine XS.go (s_iconst (v := (-1)) rfl rfl) ?_
      cases hf
      exact XR.reti rfl rfl (fun hret => ⟨_, hret, ⟨rfl, rfl⟩, L8⟩)
    · replace hf := xi_neg hf qc9
      refine XS.go (s_aloadn rfl rfl rfl) ?_
      refine XS.go (s_getr rfl xf12_40 (LY.lt L8 (by decide)) (LY.k1262 L8) (by decide) rfl (LY.r1262_21 L8)) ?_
      refine XS.go (s_iloadn rfl rfl rfl) ?_
      replace hf := xi_none hf
      obtain ⟨qk10, hf⟩ := hf
      refine XS.go (s_ialde rfl (LY.lt L8 (by decide)) (LY.k1273 L8) (inLit (LY.n1273 L8) qk10.1 qk10.2 (by decide)) rfl) ?_
      refine XS.go (s_goto (tgt := 142) rfl rfl) ?_
      cases hf
      exact XR.reti rfl rfl (fun hret => ⟨_, hret, ⟨rfl, rfl⟩, L8⟩)
  replace hf := xi_neg hf qs1_4
  by_cases qs1_5 : a0 = 5
  · replace hf := xi_pos hf qs1_5
    refine XS.go (s_tswI (tgt := 143) rfl (by rw [qs1_5]; decide) (by rw [qs1_5]; decide) (by rw [qs1_5]; rfl) rfl) ?_
    refine XS.go (s_aloadn rfl rfl rfl) ?_
    refine XS.go (s_iloadn rfl rfl rfl) ?_
    replace hf := xb_some hf
    obtain ⟨r11, e12, hf⟩ := hf
    refine r_callv rfl xvX12_isStruct xm12_369 (kf_m_isStruct (d := d) (by simp only [LY_si, LY_sj]; exact L0) e12) (LY.lt (by simp only [LY_si, LY_sj]; exact L0) (by decide)) (LY.k1262 (by simp only [LY_si, LY_sj]; exact L0)) (by decide) rfl rfl (dl0 (by decide)) (by decide) (Nat.le_of_ble_eq_true rfl) ?_
    rintro _ _ ⟨⟨rfl, rfl⟩, L13⟩
    refine r_if_eq (tgt := 160) rfl rfl (fun qc14 => ?_) (fun qc14 => ?_)
    · replace hf := xi_pos hf qc14
      refine XS.go (s_iconst (v := (-1)) rfl rfl) ?_
      cases hf
      exact XR.reti rfl rfl (fun hret => ⟨_, hret, ⟨rfl, rfl⟩, L13⟩)
    · replace hf := xi_neg hf qc14
      refine XS.go (s_aloadn rfl rfl rfl) ?_
      refine XS.go (s_getr rfl xf12_43 (LY.lt L13 (by decide)) (LY.k1262 L13) (by decide) rfl (LY.r1262_22 L13)) ?_
      refine XS.go (s_iloadn rfl rfl rfl) ?_
      replace hf := xi_none hf
      obtain ⟨qk15, hf⟩ := hf
      refine XS.go (s_ialde rfl (LY.lt L13 (by decide)) (LY.k1274 L13) (inLit (LY.n1274 L13) qk15.1 qk15.2 (by decide)) rfl) ?_
      refine XS.go (s_goto (tgt := 161) rfl rfl) ?_
      cases hf
      exact XR.reti rfl rfl (fun hret => ⟨_, hret, ⟨rfl, rfl⟩, L13⟩)
  replace hf := xi_neg hf qs1_5
  by_cases qs1_6 : a0 = 6
  · replace hf := xi_pos hf qs1_6
    refine XS.go (s_tswI (tgt := 162) rfl (by rw [qs1_6]; decide) (by rw [qs1_6]; decide) (by rw [qs1_6]; rfl) rfl) ?_
    refine XS.go (s_aloadn rfl rfl rfl) ?_
    refine XS.go (s_iloadn rfl rfl rfl) ?_
    replace hf := xb_some hf
    obtain ⟨r16, e17, hf⟩ := hf
    refine r_callv rfl xvX12_isStruct xm12_369 (kf_m_isStruct (d := d) (by simp only [LY_si, LY_sj]; exact L0) e17) (LY.lt (by simp only [LY_si, LY_sj]; exact L0) (by decide)) (LY.k1262 (by simp only [LY_si, LY_sj]; exact L0)) (by decide) rfl rfl (dl0 (by decide)) (by decide) (Nat.le_of_ble_eq_true rfl) ?_
    rintro _ _ ⟨⟨rfl, rfl⟩, L18⟩
    refine r_if_eq (tgt := 179) rfl rfl (fun qc19 => ?_) (fun qc19 => ?_)
    · replace hf := xi_pos hf qc19
      refine XS.go (s_iconst (v := (-1)) rfl rfl) ?_
      cases hf
      exact XR.reti rfl rfl (fun hret => ⟨_, hret, ⟨rfl, rfl⟩, L18⟩)
    · replace hf := xi_neg hf qc19
      refine XS.go (s_aloadn rfl rfl rfl) ?_
      refine XS.go (s_getr rfl xf12_46 (LY.lt L18 (by decide)) (LY.k1262 L18) (by decide) rfl (LY.r1262_23 L18)) ?_
      refine XS.go (s_iloadn rfl rfl rfl) ?_
      replace hf := xi_none hf
      obtain ⟨qk20, hf⟩ := hf
      refine XS.go (s_ialde rfl (LY.lt L18 (by decide)) (LY.k1275 L18) (inLit (LY.n1275 L18) qk20.1 qk20.2 (by decide)) rfl) ?_
      refine XS.go (s_goto (tgt := 180) rfl rfl) ?_
      cases hf
      exact XR.reti rfl rfl (fun hret => ⟨_, hret, ⟨rfl, rfl⟩, L18⟩)
  replace hf := xi_neg hf qs1_6
  by_cases qs1_7 : a0 = 7
  · replace hf := xi_pos hf qs1_7
    refine XS.go (s_tswI (tgt := 181) rfl (by rw [qs1_7]; decide) (by rw [qs1_7]; decide) (by rw [qs1_7]; rfl) rfl) ?_
    refine XS.go (s_aloadn rfl rfl rfl) ?_
    refine XS.go (s_iloadn rfl rfl rfl) ?_
    replace hf := xb_some hf
    obtain ⟨r21, e22, hf⟩ := hf
    refine r_callv rfl xvX12_isTable xm12_372 (kf_m_isTable (d := d) (by simp only [LY_si, LY_sj]; exact L0) e22) (LY.lt (by simp only [LY_si, LY_sj]; exact L0) (by decide)) (LY.k1262 (by simp only [LY_si, LY_sj]; exact L0)) (by decide) rfl rfl (dl0 (by decide)) (by decide) (Nat.le_of_ble_eq_true rfl) ?_
    rintro _ _ ⟨⟨rfl, rfl⟩, L23⟩
    refine r_if_eq (tgt := 198) rfl rfl (fun qc24 => ?_) (fun qc24 => ?_)
    · replace hf := xi_pos hf qc24
      refine XS.go (s_iconst (v := (-1)) rfl rfl) ?_
      cases hf
      exact XR.reti rfl rfl (fun hret => ⟨_, hret, ⟨rfl, rfl⟩, L23⟩)
    · replace hf := xi_neg hf qc24
      refine XS.go (s_aloadn rfl rfl rfl) ?_
      refine XS.go (s_getr rfl xf12_70 (LY.lt L23 (by decide)) (LY.k1262 L23) (by decide) rfl (LY.r1262_32 L23)) ?_
      refine XS.go (s_iloadn rfl rfl rfl) ?_
      replace hf := xi_none hf
      obtain ⟨qk25, hf⟩ := hf
      refine XS.go (s_ialde rfl (LY.lt L23 (by decide)) (LY.k1283 L23) (inLit (LY.n1283 L23) qk25.1 qk25.2 (by decide)) rfl) ?_
      refine XS.go (s_goto (tgt := 199) rfl rfl) ?_
      cases hf
      exact XR.reti rfl rfl (fun hret => ⟨_, hret, ⟨rfl, rfl⟩, L23⟩)
  replace hf := xi_neg hf qs1_7
  by_cases qs1_8 : a0 = 8
  · replace hf := xi_pos hf qs1_8
    refine XS.go (s_tswI (tgt := 200) rfl (by rw [qs1_8]; decide) (by rw [qs1_8]; decide) (by rw [qs1_8]; rfl) rfl) ?_
    refine XS.go (s_aloadn rfl rfl rfl) ?_
    refine XS.go (s_iloadn rfl rfl rfl) ?_
    replace hf := xb_some hf
    obtain ⟨r26, e27, hf⟩ := hf
    refine r_callv rfl xvX12_isTable xm12_372 (kf_m_isTable (d := d) (by simp only [LY_si, LY_sj]; exact L0) e27) (LY.lt (by simp only [LY_si, LY_sj]; exact L0) (by decide)) (LY.k1262 (by simp only [LY_si, LY_sj]; exact L0)) (by decide) rfl rfl (dl0 (by decide)) (by decide) (Nat.le_of_ble_eq_true rfl) ?_
    rintro _ _ ⟨⟨rfl, rfl⟩, L28⟩
    refine r_if_eq (tgt := 217) rfl rfl (fun qc29 => ?_) (fun qc29 => ?_)
    · replace hf := xi_pos hf qc29
      refine XS.go (s_iconst (v := (-1)) rfl rfl) ?_
      cases hf
      exact XR.reti rfl rfl (fun hret => ⟨_, hret, ⟨rfl, rfl⟩, L28⟩)
    · replace hf := xi_neg hf qc29
      refine XS.go (s_aloadn rfl rfl rfl) ?_
      refine XS.go (s_getr rfl xf12_73 (LY.lt L28 (by decide)) (LY.k1262 L28) (by decide) rfl (LY.r1262_33 L28)) ?_
      refine XS.go (s_iloadn rfl rfl rfl) ?_
      replace hf := xi_none hf
      obtain ⟨qk30, hf⟩ := hf
      refine XS.go (s_ialde rfl (LY.lt L28 (by decide)) (LY.k1284 L28) (inLit (LY.n1284 L28) qk30.1 qk30.2 (by decide)) rfl) ?_
      refine XS.go (s_goto (tgt := 218) rfl rfl) ?_
      cases hf
      exact XR.reti rfl rfl (fun hret => ⟨_, hret, ⟨rfl, rfl⟩, L28⟩)
  replace hf := xi_neg hf qs1_8
  by_cases qs1_9 : a0 = 9
  · replace hf := xi_pos hf qs1_9
    refine XS.go (s_tswI (tgt := 219) rfl (by rw [qs1_9]; decide) (by rw [qs1_9]; decide) (by rw [qs1_9]; rfl) rfl) ?_
    refine XS.go (s_aloadn rfl rfl rfl) ?_
    refine XS.go (s_getze rfl xf12_353 (LY.lt (by simp only [LY_si, LY_sj]; exact L0) (by decide)) (LY.k1262 (by simp only [LY_si, LY_sj]; exact L0)) (by decide) rfl (hi_hsi_nk (by decide))) ?_
    refine r_if_eq (tgt := 247) rfl rfl (fun qc31 => ?_) (fun qc31 => ?_)
    · replace hf := xi_pos hf qc31
      refine XS.go (s_iconst (v := (-1)) rfl rfl) ?_
      cases hf
      exact XR.reti rfl rfl (fun hret => ⟨_, hret, ⟨rfl, rfl⟩, (by simp only [LY_si, LY_sj]; exact L0)⟩)
    · replace hf := xi_neg hf qc31
      refine XS.go (s_iloadn rfl rfl rfl) ?_
      refine r_if_lt (tgt := 247) rfl rfl (fun qc32 => ?_) (fun qc32 => ?_)
      · replace hf := xi_pos hf qc32
        refine XS.go (s_iconst (v := (-1)) rfl rfl) ?_
        cases hf
        exact XR.reti rfl rfl (fun hret => ⟨_, hret, ⟨rfl, rfl⟩, (by simp only [LY_si, LY_sj]; exact L0)⟩)
      · replace hf := xi_neg hf qc32
        refine XS.go (s_iloadn rfl rfl rfl) ?_
        refine XS.go (s_aloadn rfl rfl rfl) ?_
        refine XS.go (s_getie rfl xf12_260 (LY.lt (by simp only [LY_si, LY_sj]; exact L0) (by decide)) (LY.k1262 (by simp only [LY_si, LY_sj]; exact L0)) (by decide) rfl (hi_hsi_nk (by decide))) ?_
        refine r_icmp_ge (tgt := 247) rfl rfl (fun qc33 => ?_) (fun qc33 => ?_)
        · replace hf := xi_pos hf qc33
          refine XS.go (s_iconst (v := (-1)) rfl rfl) ?_
          cases hf
          exact XR.reti rfl rfl (fun hret => ⟨_, hret, ⟨rfl, rfl⟩, (by simp only [LY_si, LY_sj]; exact L0)⟩)
        · replace hf := xi_neg hf qc33
          refine XS.go (s_aloadn rfl rfl rfl) ?_
          refine XS.go (s_getr rfl xf12_98 (LY.lt (by simp only [LY_si, LY_sj]; exact L0) (by decide)) (LY.k1262 (by simp only [LY_si, LY_sj]; exact L0)) (by decide) rfl (LY.r1262_42 (by simp only [LY_si, LY_sj]; exact L0))) ?_
          refine XS.go (s_iloadn rfl rfl rfl) ?_
          replace hf := xi_none hf
          obtain ⟨qk34, hf⟩ := hf
          refine XS.go (s_ialde rfl (LY.lt (by simp only [LY_si, LY_sj]; exact L0) (by decide)) (LY.k1292 (by simp only [LY_si, LY_sj]; exact L0)) (inLit (LY.n1292 (by simp only [LY_si, LY_sj]; exact L0)) qk34.1 qk34.2 (by decide)) (hi_hsi_na (by decide))) ?_
          refine XS.go (s_goto (tgt := 248) rfl rfl) ?_
          cases hf
          exact XR.reti rfl rfl (fun hret => ⟨_, hret, ⟨rfl, rfl⟩, (by simp only [LY_si, LY_sj]; exact L0)⟩)
  replace hf := xi_neg hf qs1_9
  have qs1_o : (a0).toInt < 0 ∨ 9 < (a0).toInt := by
    refine tsw_out 0 9 (by decide) ?_
    intro k h1 h2
    have z : k = 0 ∨ k = 1 ∨ k = 2 ∨ k = 3 ∨ k = 4 ∨ k = 5 ∨ k = 6 ∨ k = 7 ∨ k = 8 ∨ k = 9 := by omega
    rcases z with rfl | rfl | rfl | rfl | rfl | rfl | rfl | rfl | rfl | rfl
    · exact qs1_0
    · exact qs1_1
    · exact qs1_2
    · exact qs1_3
    · exact qs1_4
    · exact qs1_5
    · exact qs1_6
    · exact qs1_7
    · exact qs1_8
    · exact qs1_9
  refine XS.go (s_tswO (tgt := 249) rfl qs1_o rfl) ?_
  refine XS.go (s_iconst (v := (-1)) rfl rfl) ?_
  cases hf
  exact XR.reti rfl rfl (fun hret => ⟨_, hret, ⟨rfl, rfl⟩, (by simp only [LY_si, LY_sj]; exact L0)⟩)
def f_m_fieldOf (a0 : Int32) (a1 : Int32) (a2 : Int32) (h : XH) : Option (Int32 × XH) := (if a0 = 0 then (Option.bind (f_m_isTable a1 h) fun r2 => (if r2.1 = 0 then (some ((-1), r2.2)) else (if a2 < 0 then (some ((-1), r2.2)) else (if 0 ≤ a1 ∧ a1 < nI 16 then (if (hi r2.2 1283 (Int32.toNatClampNeg a1)) ≤ a2 then (some ((-1), r2.2)) else (some (((16 * a1) + a2), r2.2))) else none)))) else (Option.bind (f_m_isStruct a1 h) fun r9 => (if r9.1 = 0 then (some ((-1), r9.2)) else (if a2 < 0 then (some ((-1), r9.2)) else (if 0 ≤ a1 ∧ a1 < nI 12 then (if (hi r9.2 1273 (Int32.toNatClampNeg a1)) ≤ a2 then (some ((-1), r9.2)) else (some (((12 * a1) + a2), r9.2))) else none)))))
set_option maxRecDepth 20000 in
theorem kf_m_fieldOf {l : Launch} {G : XG} {d : Nat} {a0 : Int32} {a1 : Int32} {a2 : Int32} {h : XH} {r : Int32 × XH} (L0 : LY h) (hf : f_m_fieldOf a0 a1 a2 h = some r) : XC l G xEX12_fieldOf (d + 1) [.ref 1262, .int a0, .int a1, .int a2] h (fun v h2 => (h2 = r.2 ∧ v = some (.int r.1)) ∧ LY r.2) := by
  refine XC.virt xvX12_fieldOf (Nat.le_of_ble_eq_true rfl) ?_
  unfold f_m_fieldOf at hf
  refine XR.norm (L3 := [some (.ref 1262), some (.int a0), some (.int a1), some (.int a2)]) rfl ?_
  refine XS.go (s_iloadn rfl rfl rfl) ?_
  refine r_if_eq (tgt := 37) rfl rfl (fun qc1 => ?_) (fun qc1 => ?_)
  · replace hf := xi_pos hf qc1
    refine XS.go (s_aloadn rfl rfl rfl) ?_
    refine XS.go (s_iloadn rfl rfl rfl) ?_
    replace hf := xb_some hf
    obtain ⟨r2, e3, hf⟩ := hf
    refine r_callv rfl xvX12_isTable xm12_372 (kf_m_isTable (d := d) L0 e3) (LY.lt L0 (by decide)) (LY.k1262 L0) (by decide) rfl rfl (dl0 (by decide)) (by decide) (Nat.le_of_ble_eq_true rfl) ?_
    rintro _ _ ⟨⟨rfl, rfl⟩, L4⟩
    refine r_if_eq (tgt := 68) rfl rfl (fun qc5 => ?_) (fun qc5 => ?_)
    · replace hf := xi_pos hf qc5
      refine XS.go (s_iconst (v := (-1)) rfl rfl) ?_
      cases hf
      exact XR.reti rfl rfl (fun hret => ⟨_, hret, ⟨rfl, rfl⟩, L4⟩)
    · replace hf := xi_neg hf qc5
      refine XS.go (s_iloadn rfl rfl rfl) ?_
      refine r_if_lt (tgt := 68) rfl rfl (fun qc6 => ?_) (fun qc6 => ?_)
      · replace hf := xi_pos hf qc6
        refine XS.go (s_iconst (v := (-1)) rfl rfl) ?_
        cases hf
        exact XR.reti rfl rfl (fun hret => ⟨_, hret, ⟨rfl, rfl⟩, L4⟩)
      · replace hf := xi_neg hf qc6
        refine XS.go (s_iloadn rfl rfl rfl) ?_
        refine XS.go (s_aloadn rfl rfl rfl) ?_
        refine XS.go (s_getr rfl xf12_70 (LY.lt L4 (by decide)) (LY.k1262 L4) (by decide) rfl (LY.r1262_32 L4)) ?_
        refine XS.go (s_iloadn rfl rfl rfl) ?_
        replace hf := xi_none hf
        obtain ⟨qk7, hf⟩ := hf
        refine XS.go (s_ialde rfl (LY.lt L4 (by decide)) (LY.k1283 L4) (inLit (LY.n1283 L4) qk7.1 qk7.2 (by decide)) rfl) ?_
        refine r_icmp_ge (tgt := 68) rfl rfl (fun qc8 => ?_) (fun qc8 => ?_)
        · replace hf := xi_pos hf qc8
          refine XS.go (s_iconst (v := (-1)) rfl rfl) ?_
          cases hf
          exact XR.reti rfl rfl (fun hret => ⟨_, hret, ⟨rfl, rfl⟩, L4⟩)
        · replace hf := xi_neg hf qc8
          refine XS.go (s_bipush (v := 16) rfl rfl) ?_
          refine XS.go (s_iloadn rfl rfl rfl) ?_
          refine XS.go (s_imul rfl) ?_
          refine XS.go (s_iloadn rfl rfl rfl) ?_
          refine XS.go (s_iadd rfl) ?_
          refine XS.go (s_goto (tgt := 69) rfl rfl) ?_
          cases hf
          exact XR.reti rfl rfl (fun hret => ⟨_, hret, ⟨rfl, rfl⟩, L4⟩)
  · replace hf := xi_neg hf qc1
    refine XS.go (s_aloadn rfl rfl rfl) ?_
    refine XS.go (s_iloadn rfl rfl rfl) ?_
    replace hf := xb_some hf
    obtain ⟨r9, e10, hf⟩ := hf
    refine r_callv rfl xvX12_isStruct xm12_369 (kf_m_isStruct (d := d) L0 e10) (LY.lt L0 (by decide)) (LY.k1262 L0) (by decide) rfl rfl (dl0 (by decide)) (by decide) (Nat.le_of_ble_eq_true rfl) ?_
    rintro _ _ ⟨⟨rfl, rfl⟩, L11⟩
    refine r_if_eq (tgt := 35) rfl rfl (fun qc12 => ?_) (fun qc12 => ?_)
    · replace hf := xi_pos hf qc12
      refine XS.go (s_iconst (v := (-1)) rfl rfl) ?_
      cases hf
      exact XR.reti rfl rfl (fun hret => ⟨_, hret, ⟨rfl, rfl⟩, L11⟩)
    · replace hf := xi_neg hf qc12
      refine XS.go (s_iloadn rfl rfl rfl) ?_
      refine r_if_lt (tgt := 35) rfl rfl (fun qc13 => ?_) (fun qc13 => ?_)
      · replace hf := xi_pos hf qc13
        refine XS.go (s_iconst (v := (-1)) rfl rfl) ?_
        cases hf
        exact XR.reti rfl rfl (fun hret => ⟨_, hret, ⟨rfl, rfl⟩, L11⟩)
      · replace hf := xi_neg hf qc13
        refine XS.go (s_iloadn rfl rfl rfl) ?_
        refine XS.go (s_aloadn rfl rfl rfl) ?_
        refine XS.go (s_getr rfl xf12_40 (LY.lt L11 (by decide)) (LY.k1262 L11) (by decide) rfl (LY.r1262_21 L11)) ?_
        refine XS.go (s_iloadn rfl rfl rfl) ?_
        replace hf := xi_none hf
        obtain ⟨qk14, hf⟩ := hf
        refine XS.go (s_ialde rfl (LY.lt L11 (by decide)) (LY.k1273 L11) (inLit (LY.n1273 L11) qk14.1 qk14.2 (by decide)) rfl) ?_
        refine r_icmp_ge (tgt := 35) rfl rfl (fun qc15 => ?_) (fun qc15 => ?_)
        · replace hf := xi_pos hf qc15
          refine XS.go (s_iconst (v := (-1)) rfl rfl) ?_
          cases hf
          exact XR.reti rfl rfl (fun hret => ⟨_, hret, ⟨rfl, rfl⟩, L11⟩)
        · replace hf := xi_neg hf qc15
          refine XS.go (s_bipush (v := 12) rfl rfl) ?_
          refine XS.go (s_iloadn rfl rfl rfl) ?_
          refine XS.go (s_imul rfl) ?_
          refine XS.go (s_iloadn rfl rfl rfl) ?_
          refine XS.go (s_iadd rfl) ?_
          refine XS.go (s_goto (tgt := 36) rfl rfl) ?_
          cases hf
          exact XR.reti rfl rfl (fun hret => ⟨_, hret, ⟨rfl, rfl⟩, L11⟩)
def f_m_field (a0 : Int32) (a1 : Int32) (a2 : Int32) (a3 : Int32) (h : XH) : Option (Int32 × XH) := (Option.bind (f_m_fieldOf a0 a1 a2 (hsi h 1262 0 0)) fun r1 => (if ¬ r1.1 = (-1) then (if a3 = 0 then (if a0 = 0 then (if 0 ≤ r1.1 ∧ r1.1 < nI 256 then (some ((hi r1.2 1286 (Int32.toNatClampNeg r1.1)), r1.2)) else none) else (if 0 ≤ r1.1 ∧ r1.1 < nI 144 then (some ((hi r1.2 1277 (Int32.toNatClampNeg r1.1)), r1.2)) else none)) else (if a3 = 1 then (if a0 = 0 then (if 0 ≤ r1.1 ∧ r1.1 < nI 256 then (some ((hi r1.2 1287 (Int32.toNatClampNeg r1.1)), r1.2)) else none) else (if 0 ≤ r1.1 ∧ r1.1 < nI 144 then (some ((hi r1.2 1278 (Int32.toNatClampNeg r1.1)), r1.2)) else none)) else (if a3 = 2 then (if a0 = 0 then (if 0 ≤ r1.1 ∧ r1.1 < nI 256 then (some ((hi r1.2 1288 (Int32.toNatClampNeg r1.1)), r1.2)) else none) else (some ((-1), r1.2))) else (if a3 = 3 then (if a0 = 0 then (if 0 ≤ r1.1 ∧ r1.1 < nI 256 then (some ((hi r1.2 1289 (Int32.toNatClampNeg r1.1)), r1.2)) else none) else (if 0 ≤ r1.1 ∧ r1.1 < nI 144 then (some ((hi r1.2 1279 (Int32.toNatClampNeg r1.1)), r1.2)) else none)) else (if a3 = 4 then (if a0 = 0 then (if 0 ≤ r1.1 ∧ r1.1 < nI 256 then (some ((hi r1.2 1290 (Int32.toNatClampNeg r1.1)), r1.2)) else none) else (some (0, r1.2))) else (some ((-1), r1.2))))))) else (some ((-1), r1.2))))
set_option maxRecDepth 20000 in
theorem kf_m_field {l : Launch} {G : XG} {d : Nat} {a0 : Int32} {a1 : Int32} {a2 : Int32} {a3 : Int32} {h : XH} {r : Int32 × XH} (L0 : LY h) (hf : f_m_field a0 a1 a2 a3 h = some r) : XC l G xEX12_field (d + 2) [.ref 1262, .int a0, .int a1, .int a2, .int a3] h (fun v h2 => (h2 = r.2 ∧ v = some (.int r.1)) ∧ LY r.2) := by
  refine XC.virt xvX12_field (Nat.le_of_ble_eq_true rfl) ?_
  unfold f_m_field at hf
  refine XR.norm (L3 := [some (.ref 1262), some (.int a0), some (.int a1), some (.int a2), some (.int a3), none]) rfl ?_
  refine XS.go (s_aloadn rfl rfl rfl) ?_
  refine XS.go (s_iconst (v := 0) rfl rfl) ?_
  refine XS.go (s_puti rfl xf12_175 (LY.lt L0 (by decide)) (LY.k1262 L0) (by decide) rfl (Or.inl rfl)) ?_
  refine XS.go (s_aloadn rfl rfl rfl) ?_
  refine XS.go (s_iloadn rfl rfl rfl) ?_
  refine XS.go (s_iloadn rfl rfl rfl) ?_
  refine XS.go (s_iloadn rfl rfl rfl) ?_
  replace hf := xb_some hf
  obtain ⟨r1, e2, hf⟩ := hf
  refine r_callv rfl xvX12_fieldOf xm12_375 (kf_m_fieldOf (d := d) (by simp only [LY_si, LY_sj]; exact L0) e2) (LY.lt (by simp only [LY_si, LY_sj]; exact L0) (by decide)) (LY.k1262 (by simp only [LY_si, LY_sj]; exact L0)) (by decide) rfl rfl (dl (by decide)) (by decide) (Nat.le_of_ble_eq_true rfl) ?_
  rintro _ _ ⟨⟨rfl, rfl⟩, L3⟩
  refine XS.go (XS.lcl (L3 := [some (.ref 1262), some (.int a0), some (.int a1), some (.int a2), some (.int a3), some (.int r1.1)]) (s_istore rfl (Nat.le_of_ble_eq_true rfl)) rfl) ?_
  refine XS.go (s_iload rfl rfl) ?_
  refine XS.go (s_iconst (v := (-1)) rfl rfl) ?_
  refine r_icmp_ne (tgt := 22) rfl rfl (fun qc4 => ?_) (fun qc4 => ?_)
  · replace hf := xi_pos hf qc4
    refine XS.go (s_iload rfl rfl) ?_
    by_cases qs5_0 : a3 = 0
    · replace hf := xi_pos hf qs5_0
      refine XS.go (s_tswI (tgt := 60) rfl (by rw [qs5_0]; decide) (by rw [qs5_0]; decide) (by rw [qs5_0]; rfl) rfl) ?_
      refine XS.go (s_iloadn rfl rfl rfl) ?_
      refine r_if_eq (tgt := 74) rfl rfl (fun qc6 => ?_) (fun qc6 => ?_)
      · replace hf := xi_pos hf qc6
        refine XS.go (s_aloadn rfl rfl rfl) ?_
        refine XS.go (s_getr rfl xf12_79 (LY.lt L3 (by decide)) (LY.k1262 L3) (by decide) rfl (LY.r1262_35 L3)) ?_
        refine XS.go (s_iload rfl rfl) ?_
        replace hf := xi_none hf
        obtain ⟨qk7, hf⟩ := hf
        refine XS.go (s_ialde rfl (LY.lt L3 (by decide)) (LY.k1286 L3) (inLit (LY.n1286 L3) qk7.1 qk7.2 (by decide)) rfl) ?_
        cases hf
        exact XR.reti rfl rfl (fun hret => ⟨_, hret, ⟨rfl, rfl⟩, L3⟩)
      · replace hf := xi_neg hf qc6
        refine XS.go (s_aloadn rfl rfl rfl) ?_
        refine XS.go (s_getr rfl xf12_52 (LY.lt L3 (by decide)) (LY.k1262 L3) (by decide) rfl (LY.r1262_25 L3)) ?_
        refine XS.go (s_iload rfl rfl) ?_
        replace hf := xi_none hf
        obtain ⟨qk8, hf⟩ := hf
        refine XS.go (s_ialde rfl (LY.lt L3 (by decide)) (LY.k1277 L3) (inLit (LY.n1277 L3) qk8.1 qk8.2 (by decide)) rfl) ?_
        refine XS.go (s_goto (tgt := 81) rfl rfl) ?_
        cases hf
        exact XR.reti rfl rfl (fun hret => ⟨_, hret, ⟨rfl, rfl⟩, L3⟩)
    replace hf := xi_neg hf qs5_0
    by_cases qs5_1 : a3 = 1
    · replace hf := xi_pos hf qs5_1
      refine XS.go (s_tswI (tgt := 82) rfl (by rw [qs5_1]; decide) (by rw [qs5_1]; decide) (by rw [qs5_1]; rfl) rfl) ?_
      refine XS.go (s_iloadn rfl rfl rfl) ?_
      refine r_if_eq (tgt := 96) rfl rfl (fun qc9 => ?_) (fun qc9 => ?_)
      · replace hf := xi_pos hf qc9
        refine XS.go (s_aloadn rfl rfl rfl) ?_
        refine XS.go (s_getr rfl xf12_82 (LY.lt L3 (by decide)) (LY.k1262 L3) (by decide) rfl (LY.r1262_36 L3)) ?_
        refine XS.go (s_iload rfl rfl) ?_
        replace hf := xi_none hf
        obtain ⟨qk10, hf⟩ := hf
        refine XS.go (s_ialde rfl (LY.lt L3 (by decide)) (LY.k1287 L3) (inLit (LY.n1287 L3) qk10.1 qk10.2 (by decide)) rfl) ?_
        cases hf
        exact XR.reti rfl rfl (fun hret => ⟨_, hret, ⟨rfl, rfl⟩, L3⟩)
      · replace hf := xi_neg hf qc9
        refine XS.go (s_aloadn rfl rfl rfl) ?_
        refine XS.go (s_getr rfl xf12_55 (LY.lt L3 (by decide)) (LY.k1262 L3) (by decide) rfl (LY.r1262_26 L3)) ?_
        refine XS.go (s_iload rfl rfl) ?_
        replace hf := xi_none hf
        obtain ⟨qk11, hf⟩ := hf
        refine XS.go (s_ialde rfl (LY.lt L3 (by decide)) (LY.k1278 L3) (inLit (LY.n1278 L3) qk11.1 qk11.2 (by decide)) rfl) ?_
        refine XS.go (s_goto (tgt := 103) rfl rfl) ?_
        cases hf
        exact XR.reti rfl rfl (fun hret => ⟨_, hret, ⟨rfl, rfl⟩, L3⟩)
    replace hf := xi_neg hf qs5_1
    by_cases qs5_2 : a3 = 2
    · replace hf := xi_pos hf qs5_2
      refine XS.go (s_tswI (tgt := 104) rfl (by rw [qs5_2]; decide) (by rw [qs5_2]; decide) (by rw [qs5_2]; rfl) rfl) ?_
      refine XS.go (s_iloadn rfl rfl rfl) ?_
      refine r_if_eq (tgt := 112) rfl rfl (fun qc12 => ?_) (fun qc12 => ?_)
      · replace hf := xi_pos hf qc12
        refine XS.go (s_aloadn rfl rfl rfl) ?_
        refine XS.go (s_getr rfl xf12_85 (LY.lt L3 (by decide)) (LY.k1262 L3) (by decide) rfl (LY.r1262_37 L3)) ?_
        refine XS.go (s_iload rfl rfl) ?_
        replace hf := xi_none hf
        obtain ⟨qk13, hf⟩ := hf
        refine XS.go (s_ialde rfl (LY.lt L3 (by decide)) (LY.k1288 L3) (inLit (LY.n1288 L3) qk13.1 qk13.2 (by decide)) rfl) ?_
        cases hf
        exact XR.reti rfl rfl (fun hret => ⟨_, hret, ⟨rfl, rfl⟩, L3⟩)
      · replace hf := xi_neg hf qc12
        refine XS.go (s_iconst (v := (-1)) rfl rfl) ?_
        refine XS.go (s_goto (tgt := 119) rfl rfl) ?_
        cases hf
        exact XR.reti rfl rfl (fun hret => ⟨_, hret, ⟨rfl, rfl⟩, L3⟩)
    replace hf := xi_neg hf qs5_2
    by_cases qs5_3 : a3 = 3
    · replace hf := xi_pos hf qs5_3
      refine XS.go (s_tswI (tgt := 120) rfl (by rw [qs5_3]; decide) (by rw [qs5_3]; decide) (by rw [qs5_3]; rfl) rfl) ?_
      refine XS.go (s_iloadn rfl rfl rfl) ?_
      refine r_if_eq (tgt := 134) rfl rfl (fun qc14 => ?_) (fun qc14 => ?_)
      · replace hf := xi_pos hf qc14
        refine XS.go (s_aloadn rfl rfl rfl) ?_
        refine XS.go (s_getr rfl xf12_88 (LY.lt L3 (by decide)) (LY.k1262 L3) (by decide) rfl (LY.r1262_38 L3)) ?_
        refine XS.go (s_iload rfl rfl) ?_
        replace hf := xi_none hf
        obtain ⟨qk15, hf⟩ := hf
        refine XS.go (s_ialde rfl (LY.lt L3 (by decide)) (LY.k1289 L3) (inLit (LY.n1289 L3) qk15.1 qk15.2 (by decide)) rfl) ?_
        cases hf
        exact XR.reti rfl rfl (fun hret => ⟨_, hret, ⟨rfl, rfl⟩, L3⟩)
      · replace hf := xi_neg hf qc14
        refine XS.go (s_aloadn rfl rfl rfl) ?_
        refine XS.go (s_getr rfl xf12_58 (LY.lt L3 (by decide)) (LY.k1262 L3) (by decide) rfl (LY.r1262_27 L3)) ?_
        refine XS.go (s_iload rfl rfl) ?_
        replace hf := xi_none hf
        obtain ⟨qk16, hf⟩ := hf
        refine XS.go (s_ialde rfl (LY.lt L3 (by decide)) (LY.k1279 L3) (inLit (LY.n1279 L3) qk16.1 qk16.2 (by decide)) rfl) ?_
        refine XS.go (s_goto (tgt := 141) rfl rfl) ?_
        cases hf
        exact XR.reti rfl rfl (fun hret => ⟨_, hret, ⟨rfl, rfl⟩, L3⟩)
    replace hf := xi_neg hf qs5_3
    by_cases qs5_4 : a3 = 4
    · replace hf := xi_pos hf qs5_4
      refine XS.go (s_tswI (tgt := 142) rfl (by rw [qs5_4]; decide) (by rw [qs5_4]; decide) (by rw [qs5_4]; rfl) rfl) ?_
      refine XS.go (s_iloadn rfl rfl rfl) ?_
      refine r_if_eq (tgt := 150) rfl rfl (fun qc17 => ?_) (fun qc17 => ?_)
      · replace hf := xi_pos hf qc17
        refine XS.go (s_aloadn rfl rfl rfl) ?_
        refine XS.go (s_getr rfl xf12_91 (LY.lt L3 (by decide)) (LY.k1262 L3) (by decide) rfl (LY.r1262_39 L3)) ?_
        refine XS.go (s_iload rfl rfl) ?_
        replace hf := xi_none hf
        obtain ⟨qk18, hf⟩ := hf
        refine XS.go (s_ialde rfl (LY.lt L3 (by decide)) (LY.k1290 L3) (inLit (LY.n1290 L3) qk18.1 qk18.2 (by decide)) rfl) ?_
        cases hf
        exact XR.reti rfl rfl (fun hret => ⟨_, hret, ⟨rfl, rfl⟩, L3⟩)
      · replace hf := xi_neg hf qc17
        refine XS.go (s_iconst (v := 0) rfl rfl) ?_
        refine XS.go (s_goto (tgt := 157) rfl rfl) ?_
        cases hf
        exact XR.reti rfl rfl (fun hret => ⟨_, hret, ⟨rfl, rfl⟩, L3⟩)
    replace hf := xi_neg hf qs5_4
    have qs5_o : (a3).toInt < 0 ∨ 4 < (a3).toInt := by
      refine tsw_out 0 4 (by decide) ?_
      intro k h1 h2
      have z : k = 0 ∨ k = 1 ∨ k = 2 ∨ k = 3 ∨ k = 4 := by omega
      rcases z with rfl | rfl | rfl | rfl | rfl
      · exact qs5_0
      · exact qs5_1
      · exact qs5_2
      · exact qs5_3
      · exact qs5_4
    refine XS.go (s_tswO (tgt := 158) rfl qs5_o rfl) ?_
    refine XS.go (s_iconst (v := (-1)) rfl rfl) ?_
    cases hf
    exact XR.reti rfl rfl (fun hret => ⟨_, hret, ⟨rfl, rfl⟩, L3⟩)
  · replace hf := xi_neg hf qc4
    refine XS.go (s_iconst (v := (-1)) rfl rfl) ?_
    cases hf
    exact XR.reti rfl rfl (fun hret => ⟨_, hret, ⟨rfl, rfl⟩, L3⟩)
def b_m_standard_27 (h : XH) : Option (Int64 × XH) := (some ((0 : Int64), h))
set_option maxRecDepth 20000 in
theorem kb_m_standard_27 {l : Launch} {G : XG} {d : Nat} {h : XH} {r : Int64 × XH} (L0 : LY h) (hf : b_m_standard_27 h = some r) : XR l G xEX12_standard (d + 2) (27, [none, none, none, none], [], h) (fun C => ∃ v, xRet xEX12_standard C v ∧ (C.2.2.2 = r.2 ∧ v = some (.long r.1)) ∧ LY r.2) := by
  unfold b_m_standard_27 at hf
  refine XS.go (s_lconst (v := 0) rfl rfl) ?_
  refine XS.go (s_goto (tgt := 37) rfl rfl) ?_
  cases hf
  exact XR.retl rfl rfl (fun hret => ⟨_, hret, ⟨rfl, rfl⟩, L0⟩)
def f_m_standard (a0 : Int32) (a1 : Int32) (h : XH) : Option (Int64 × XH) := (Option.bind (f_m_fieldOf 0 a0 a1 (hsi h 1262 0 0)) fun r1 => (if r1.1 = (-1) then (b_m_standard_27 r1.2) else (if 0 ≤ r1.1 ∧ r1.1 < nI 256 then (if (hi r1.2 1286 (Int32.toNatClampNeg r1.1)) = 0 then (some ((hj r1.2 1291 (Int32.toNatClampNeg r1.1)), r1.2)) else (b_m_standard_27 r1.2)) else none)))
set_option maxRecDepth 20000 in
theorem kf_m_standard {l : Launch} {G : XG} {d : Nat} {a0 : Int32} {a1 : Int32} {h : XH} {r : Int64 × XH} (L0 : LY h) (hf : f_m_standard a0 a1 h = some r) : XC l G xEX12_standard (d + 2) [.ref 1262, .int a0, .int a1] h (fun v h2 => (h2 = r.2 ∧ v = some (.long r.1)) ∧ LY r.2) := by
  refine XC.virt xvX12_standard (Nat.le_of_ble_eq_true rfl) ?_
  unfold f_m_standard at hf
  refine XR.norm (L3 := [some (.ref 1262), some (.int a0), some (.int a1), none]) rfl ?_
  refine XS.go (s_aloadn rfl rfl rfl) ?_
  refine XS.go (s_iconst (v := 0) rfl rfl) ?_
  refine XS.go (s_puti rfl xf12_175 (LY.lt L0 (by decide)) (LY.k1262 L0) (by decide) rfl (Or.inl rfl)) ?_
  refine XS.go (s_aloadn rfl rfl rfl) ?_
  refine XS.go (s_iconst (v := 0) rfl rfl) ?_
  refine XS.go (s_iloadn rfl rfl rfl) ?_
  refine XS.go (s_iloadn rfl rfl rfl) ?_
  replace hf := xb_some hf
  obtain ⟨r1, e2, hf⟩ := hf
  refine r_callv rfl xvX12_fieldOf xm12_375 (kf_m_fieldOf (d := d) (by simp only [LY_si, LY_sj]; exact L0) e2) (LY.lt (by simp only [LY_si, LY_sj]; exact L0) (by decide)) (LY.k1262 (by simp only [LY_si, LY_sj]; exact L0)) (by decide) rfl rfl (dl (by decide)) (by decide) (Nat.le_of_ble_eq_true rfl) ?_
  rintro _ _ ⟨⟨rfl, rfl⟩, L3⟩
  refine XS.go (XS.lcl (L3 := [some (.ref 1262), some (.int a0), some (.int a1), some (.int r1.1)]) (s_istoren rfl rfl (Nat.le_of_ble_eq_true rfl)) rfl) ?_
  refine XS.go (s_iloadn rfl rfl rfl) ?_
  refine XS.go (s_iconst (v := (-1)) rfl rfl) ?_
  refine r_icmp_eq (tgt := 27) rfl rfl (fun qc4 => ?_) (fun qc4 => ?_)
  · replace hf := xi_pos hf qc4
    exact XR.forget (L2 := [none, none, none, none]) trivial (kb_m_standard_27 L3 hf)
  · replace hf := xi_neg hf qc4
    refine XS.go (s_aloadn rfl rfl rfl) ?_
    refine XS.go (s_getr rfl xf12_79 (LY.lt L3 (by decide)) (LY.k1262 L3) (by decide) rfl (LY.r1262_35 L3)) ?_
    refine XS.go (s_iloadn rfl rfl rfl) ?_
    replace hf := xi_none hf
    obtain ⟨qk5, hf⟩ := hf
    refine XS.go (s_ialde rfl (LY.lt L3 (by decide)) (LY.k1286 L3) (inLit (LY.n1286 L3) qk5.1 qk5.2 (by decide)) rfl) ?_
    refine r_if_eq (tgt := 31) rfl rfl (fun qc6 => ?_) (fun qc6 => ?_)
    · replace hf := xi_pos hf qc6
      refine XS.go (s_aloadn rfl rfl rfl) ?_
      refine XS.go (s_getr rfl xf12_94 (LY.lt L3 (by decide)) (LY.k1262 L3) (by decide) rfl (LY.r1262_40 L3)) ?_
      refine XS.go (s_iloadn rfl rfl rfl) ?_
      refine XS.go (s_lalde rfl (LY.lt L3 (by decide)) (LY.k1291 L3) (inLit (LY.n1291 L3) qk5.1 qk5.2 (by decide)) rfl) ?_
      cases hf
      exact XR.retl rfl rfl (fun hret => ⟨_, hret, ⟨rfl, rfl⟩, L3⟩)
    · replace hf := xi_neg hf qc6
      exact XR.forget (L2 := [none, none, none, none]) trivial (kb_m_standard_27 L3 hf)
def b_m_find_185 (K67 : Int32 → Int32 → Int32 → Int32 → Int32 → XH → Option (Int32 × XH)) (x1 : Int32) (x2 : Int32) (x3 : Int32) (x5 : Int32) (x6 : Int32) (x8 : Int32) (h : XH) : Option (Int32 × XH) := (if x8 = 0 then (K67 x1 x2 x3 x5 (x6 + 1) h) else (some (x6, h)))
set_option maxRecDepth 20000 in
theorem kb_m_find_185 {l : Launch} {G : XG} {d : Nat} {K67 : Int32 → Int32 → Int32 → Int32 → Int32 → XH → Option (Int32 × XH)} {x1 : Int32} {x2 : Int32} {x3 : Int32} {x5 : Int32} {x6 : Int32} {x8 : Int32} {h : XH} {r : Int32 × XH} (hK67 : ∀ (x1 : Int32) (x2 : Int32) (x3 : Int32) (x5 : Int32) (x6 : Int32) (h : XH), LY h → K67 x1 x2 x3 x5 x6 h = some r → XR l G xEX12_find (d + 1) (67, [some (.ref 1262), some (.int x1), some (.int x2), some (.int x3), none, some (.int x5), some (.int x6), none, none, none], [], h) (fun C => ∃ v, xRet xEX12_find C v ∧ (C.2.2.2 = r.2 ∧ v = some (.int r.1)) ∧ LY r.2)) (L0 : LY h) (hf : b_m_find_185 K67 x1 x2 x3 x5 x6 x8 h = some r) : XR l G xEX12_find (d + 1) (185, [some (.ref 1262), some (.int x1), some (.int x2), some (.int x3), none, some (.int x5), some (.int x6), none, some (.int x8), none], [], h) (fun C => ∃ v, xRet xEX12_find C v ∧ (C.2.2.2 = r.2 ∧ v = some (.int r.1)) ∧ LY r.2) := by
  unfold b_m_find_185 at hf
  refine XS.go (s_iload rfl rfl) ?_
  refine r_if_eq (tgt := 193) rfl rfl (fun qc1 => ?_) (fun qc1 => ?_)
  · replace hf := xi_pos hf qc1
    refine XS.go (XS.lcl (L3 := [some (.ref 1262), some (.int x1), some (.int x2), some (.int x3), none, some (.int x5), some (.int (x6 + 1)), none, some (.int x8), none]) (s_inc rfl rfl (Nat.le_of_ble_eq_true rfl)) rfl) ?_
    refine XS.go (s_goto (tgt := 67) rfl rfl) ?_
    exact XR.forget (L2 := [some (.ref 1262), some (.int x1), some (.int x2), some (.int x3), none, some (.int x5), some (.int (x6 + 1)), none, none, none]) ⟨rfl, ⟨rfl, ⟨rfl, ⟨rfl, ⟨rfl, ⟨rfl, trivial⟩⟩⟩⟩⟩⟩ (hK67 x1 x2 x3 x5 (x6 + 1) _ L0 hf)
  · replace hf := xi_neg hf qc1
    refine XS.go (s_iload rfl rfl) ?_
    cases hf
    exact XR.reti rfl rfl (fun hret => ⟨_, hret, ⟨rfl, rfl⟩, L0⟩)
def b_m_find_177 (K67 : Int32 → Int32 → Int32 → Int32 → Int32 → XH → Option (Int32 × XH)) (K136 : Int32 → Int32 → Int32 → Int32 → Int32 → Int32 → Int32 → Int32 → XH → Option (Int32 × XH)) (x1 : Int32) (x2 : Int32) (x3 : Int32) (x5 : Int32) (x6 : Int32) (x7 : Int32) (x9 : Int32) (y0 : Int32) (h : XH) : Option (Int32 × XH) := (K136 x1 x2 x3 x5 x6 x7 y0 (x9 + 1) h)
set_option maxRecDepth 20000 in
theorem kb_m_find_177 {l : Launch} {G : XG} {d : Nat} {K67 : Int32 → Int32 → Int32 → Int32 → Int32 → XH → Option (Int32 × XH)} {K136 : Int32 → Int32 → Int32 → Int32 → Int32 → Int32 → Int32 → Int32 → XH → Option (Int32 × XH)} {x1 : Int32} {x2 : Int32} {x3 : Int32} {x5 : Int32} {x6 : Int32} {x7 : Int32} {x9 : Int32} {y0 : Int32} {h : XH} {r : Int32 × XH} (hK67 : ∀ (x1 : Int32) (x2 : Int32) (x3 : Int32) (x5 : Int32) (x6 : Int32) (h : XH), LY h → K67 x1 x2 x3 x5 x6 h = some r → XR l G xEX12_find (d + 1) (67, [some (.ref 1262), some (.int x1), some (.int x2), some (.int x3), none, some (.int x5), some (.int x6), none, none, none], [], h) (fun C => ∃ v, xRet xEX12_find C v ∧ (C.2.2.2 = r.2 ∧ v = some (.int r.1)) ∧ LY r.2)) (hK136 : ∀ (x1 : Int32) (x2 : Int32) (x3 : Int32) (x5 : Int32) (x6 : Int32) (x7 : Int32) (x8 : Int32) (x9 : Int32) (h : XH), LY h → K136 x1 x2 x3 x5 x6 x7 x8 x9 h = some r → XR l G xEX12_find (d + 1) (136, [some (.ref 1262), some (.int x1), some (.int x2), some (.int x3), none, some (.int x5), some (.int x6), some (.int x7), some (.int x8), some (.int x9)], [], h) (fun C => ∃ v, xRet xEX12_find C v ∧ (C.2.2.2 = r.2 ∧ v = some (.int r.1)) ∧ LY r.2)) (L0 : LY h) (hf : b_m_find_177 K67 K136 x1 x2 x3 x5 x6 x7 x9 y0 h = some r) : XR l G xEX12_find (d + 1) (177, [some (.ref 1262), some (.int x1), some (.int x2), some (.int x3), none, some (.int x5), some (.int x6), some (.int x7), none, some (.int x9)], [(.int y0)], h) (fun C => ∃ v, xRet xEX12_find C v ∧ (C.2.2.2 = r.2 ∧ v = some (.int r.1)) ∧ LY r.2) := by
  unfold b_m_find_177 at hf
  refine XS.go (XS.lcl (L3 := [some (.ref 1262), some (.int x1), some (.int x2), some (.int x3), none, some (.int x5), some (.int x6), some (.int x7), some (.int y0), some (.int x9)]) (s_istore rfl (Nat.le_of_ble_eq_true rfl)) rfl) ?_
  refine XS.go (XS.lcl (L3 := [some (.ref 1262), some (.int x1), some (.int x2), some (.int x3), none, some (.int x5), some (.int x6), some (.int x7), some (.int y0), some (.int (x9 + 1))]) (s_inc rfl rfl (Nat.le_of_ble_eq_true rfl)) rfl) ?_
  refine XS.go (s_goto (tgt := 136) rfl rfl) ?_
  exact XR.forget (L2 := [some (.ref 1262), some (.int x1), some (.int x2), some (.int x3), none, some (.int x5), some (.int x6), some (.int x7), some (.int y0), some (.int (x9 + 1))]) ⟨rfl, ⟨rfl, ⟨rfl, ⟨rfl, ⟨rfl, ⟨rfl, ⟨rfl, ⟨rfl, ⟨rfl, trivial⟩⟩⟩⟩⟩⟩⟩⟩⟩ (hK136 x1 x2 x3 x5 x6 x7 y0 (x9 + 1) _ L0 hf)
def s_m_find_136 (K67 : Int32 → Int32 → Int32 → Int32 → Int32 → XH → Option (Int32 × XH)) (K136 : Int32 → Int32 → Int32 → Int32 → Int32 → Int32 → Int32 → Int32 → XH → Option (Int32 × XH)) (x1 : Int32) (x2 : Int32) (x3 : Int32) (x5 : Int32) (x6 : Int32) (x7 : Int32) (x8 : Int32) (x9 : Int32) (h : XH) : Option (Int32 × XH) := (if x3 ≤ x9 then (b_m_find_185 K67 x1 x2 x3 x5 x6 x8 h) else (if x8 = 0 then (b_m_find_185 K67 x1 x2 x3 x5 x6 x8 h) else (if 0 ≤ x7 ∧ x7 < nI 4001 then (if 0 ≤ ((hi h 1267 (Int32.toNatClampNeg x7)) + x9) ∧ ((hi h 1267 (Int32.toNatClampNeg x7)) + x9) < nI 4000 then (if 0 ≤ x9 ∧ x9 < nI 4000 then (if ¬ (hi h 1264 (Int32.toNatClampNeg ((hi h 1267 (Int32.toNatClampNeg x7)) + x9))) = (hi h 1263 (Int32.toNatClampNeg x9)) then (b_m_find_177 K67 K136 x1 x2 x3 x5 x6 x7 x9 0 h) else (b_m_find_177 K67 K136 x1 x2 x3 x5 x6 x7 x9 1 h)) else none) else none) else none)))
set_option maxRecDepth 20000 in
theorem ks_m_find_136 {l : Launch} {G : XG} {d : Nat} {K67 : Int32 → Int32 → Int32 → Int32 → Int32 → XH → Option (Int32 × XH)} {K136 : Int32 → Int32 → Int32 → Int32 → Int32 → Int32 → Int32 → Int32 → XH → Option (Int32 × XH)} {x1 : Int32} {x2 : Int32} {x3 : Int32} {x5 : Int32} {x6 : Int32} {x7 : Int32} {x8 : Int32} {x9 : Int32} {h : XH} {r : Int32 × XH} (hK67 : ∀ (x1 : Int32) (x2 : Int32) (x3 : Int32) (x5 : Int32) (x6 : Int32) (h : XH), LY h → K67 x1 x2 x3 x5 x6 h = some r → XR l G xEX12_find (d + 1) (67, [some (.ref 1262), some (.int x1), some (.int x2), some (.int x3), none, some (.int x5), some (.int x6), none, none, none], [], h) (fun C => ∃ v, xRet xEX12_find C v ∧ (C.2.2.2 = r.2 ∧ v = some (.int r.1)) ∧ LY r.2)) (hK136 : ∀ (x1 : Int32) (x2 : Int32) (x3 : Int32) (x5 : Int32) (x6 : Int32) (x7 : Int32) (x8 : Int32) (x9 : Int32) (h : XH), LY h → K136 x1 x2 x3 x5 x6 x7 x8 x9 h = some r → XR l G xEX12_find (d + 1) (136, [some (.ref 1262), some (.int x1), some (.int x2), some (.int x3), none, some (.int x5), some (.int x6), some (.int x7), some (.int x8), some (.int x9)], [], h) (fun C => ∃ v, xRet xEX12_find C v ∧ (C.2.2.2 = r.2 ∧ v = some (.int r.1)) ∧ LY r.2)) (L0 : LY h) (hf : s_m_find_136 K67 K136 x1 x2 x3 x5 x6 x7 x8 x9 h = some r) : XR l G xEX12_find (d + 1) (136, [some (.ref 1262), some (.int x1), some (.int x2), some (.int x3), none, some (.int x5), some (.int x6), some (.int x7), some (.int x8), some (.int x9)], [], h) (fun C => ∃ v, xRet xEX12_find C v ∧ (C.2.2.2 = r.2 ∧ v = some (.int r.1)) ∧ LY r.2) := by
  unfold s_m_find_136 at hf
  refine XS.go (s_iload rfl rfl) ?_
  refine XS.go (s_iloadn rfl rfl rfl) ?_
  refine r_icmp_ge (tgt := 185) rfl rfl (fun qc2 => ?_) (fun qc2 => ?_)
  · replace hf := xi_pos hf qc2
    exact XR.forget (L2 := [some (.ref 1262), some (.int x1), some (.int x2), some (.int x3), none, some (.int x5), some (.int x6), none, some (.int x8), none]) ⟨rfl, ⟨rfl, ⟨rfl, ⟨rfl, ⟨rfl, ⟨rfl, ⟨rfl, trivial⟩⟩⟩⟩⟩⟩⟩ (kb_m_find_185 hK67 L0 hf)
  · replace hf := xi_neg hf qc2
    refine XS.go (s_iload rfl rfl) ?_
    refine r_if_eq (tgt := 185) rfl rfl (fun qc3 => ?_) (fun qc3 => ?_)
    · replace hf := xi_pos hf qc3
      exact XR.forget (L2 := [some (.ref 1262), some (.int x1), some (.int x2), some (.int x3), none, some (.int x5), some (.int x6), none, some (.int x8), none]) ⟨rfl, ⟨rfl, ⟨rfl, ⟨rfl, ⟨rfl, ⟨rfl, ⟨rfl, trivial⟩⟩⟩⟩⟩⟩⟩ (kb_m_find_185 hK67 L0 hf)
    · replace hf := xi_neg hf qc3
      refine XS.go (s_aloadn rfl rfl rfl) ?_
      refine XS.go (s_getr rfl xf12_13 (LY.lt L0 (by decide)) (LY.k1262 L0) (by decide) rfl (LY.r1262_3 L0)) ?_
      refine XS.go (s_aloadn rfl rfl rfl) ?_
      refine XS.go (s_getr rfl xf12_22 (LY.lt L0 (by decide)) (LY.k1262 L0) (by decide) rfl (LY.r1262_9 L0)) ?_
      refine XS.go (s_iload rfl rfl) ?_
      replace hf := xi_none hf
      obtain ⟨qk4, hf⟩ := hf
      refine XS.go (s_ialde rfl (LY.lt L0 (by decide)) (LY.k1267 L0) (inLit (LY.n1267 L0) qk4.1 qk4.2 (by decide)) rfl) ?_
      refine XS.go (s_iload rfl rfl) ?_
      refine XS.go (s_iadd rfl) ?_
      replace hf := xi_none hf
      obtain ⟨qk5, hf⟩ := hf
      refine XS.go (s_ialde rfl (LY.lt L0 (by decide)) (LY.k1264 L0) (inLit (LY.n1264 L0) qk5.1 qk5.2 (by decide)) rfl) ?_
      refine XS.go (s_aloadn rfl rfl rfl) ?_
      refine XS.go (s_getr rfl xf12_9 (LY.lt L0 (by decide)) (LY.k1262 L0) (by decide) rfl (LY.r1262_1 L0)) ?_
      refine XS.go (s_iload rfl rfl) ?_
      replace hf := xi_none hf
      obtain ⟨qk6, hf⟩ := hf
      refine XS.go (s_ialde rfl (LY.lt L0 (by decide)) (LY.k1263 L0) (inLit (LY.n1263 L0) qk6.1 qk6.2 (by decide)) rfl) ?_
      refine r_icmp_ne (tgt := 176) rfl rfl (fun qc7 => ?_) (fun qc7 => ?_)
      · replace hf := xi_pos hf qc7
        refine XS.go (s_iconst (v := 0) rfl rfl) ?_
        exact XR.forget (L2 := [some (.ref 1262), some (.int x1), some (.int x2), some (.int x3), none, some (.int x5), some (.int x6), some (.int x7), none, some (.int x9)]) ⟨rfl, ⟨rfl, ⟨rfl, ⟨rfl, ⟨rfl, ⟨rfl, ⟨rfl, ⟨rfl, trivial⟩⟩⟩⟩⟩⟩⟩⟩ (kb_m_find_177 hK67 hK136 L0 hf)
      · replace hf := xi_neg hf qc7
        refine XS.go (s_iconst (v := 1) rfl rfl) ?_
        refine XS.go (s_goto (tgt := 177) rfl rfl) ?_
        exact XR.forget (L2 := [some (.ref 1262), some (.int x1), some (.int x2), some (.int x3), none, some (.int x5), some (.int x6), some (.int x7), none, some (.int x9)]) ⟨rfl, ⟨rfl, ⟨rfl, ⟨rfl, ⟨rfl, ⟨rfl, ⟨rfl, ⟨rfl, trivial⟩⟩⟩⟩⟩⟩⟩⟩ (kb_m_find_177 hK67 hK136 L0 hf)
def b_m_find_136 (K67 : Int32 → Int32 → Int32 → Int32 → Int32 → XH → Option (Int32 × XH)) : Nat → Int32 → Int32 → Int32 → Int32 → Int32 → Int32 → Int32 → Int32 → XH → Option (Int32 × XH)
  | 0, _, _, _, _, _, _, _, _, _ => none
  | n + 1, x1, x2, x3, x5, x6, x7, x8, x9, h => s_m_find_136 K67 (b_m_find_136 K67 n) x1 x2 x3 x5 x6 x7 x8 x9 h
theorem kb_m_find_136 {l : Launch} {G : XG} {d : Nat} {K67 : Int32 → Int32 → Int32 → Int32 → Int32 → XH → Option (Int32 × XH)} {n : Nat} {x1 : Int32} {x2 : Int32} {x3 : Int32} {x5 : Int32} {x6 : Int32} {x7 : Int32} {x8 : Int32} {x9 : Int32} {h : XH} {r : Int32 × XH} (hK67 : ∀ (x1 : Int32) (x2 : Int32) (x3 : Int32) (x5 : Int32) (x6 : Int32) (h : XH), LY h → K67 x1 x2 x3 x5 x6 h = some r → XR l G xEX12_find (d + 1) (67, [some (.ref 1262), some (.int x1), some (.int x2), some (.int x3), none, some (.int x5), some (.int x6), none, none, none], [], h) (fun C => ∃ v, xRet xEX12_find C v ∧ (C.2.2.2 = r.2 ∧ v = some (.int r.1)) ∧ LY r.2)) (L0 : LY h) (hf : b_m_find_136 K67 n x1 x2 x3 x5 x6 x7 x8 x9 h = some r) : XR l G xEX12_find (d + 1) (136, [some (.ref 1262), some (.int x1), some (.int x2), some (.int x3), none, some (.int x5), some (.int x6), some (.int x7), some (.int x8), some (.int x9)], [], h) (fun C => ∃ v, xRet xEX12_find C v ∧ (C.2.2.2 = r.2 ∧ v = some (.int r.1)) ∧ LY r.2) := by
  induction n generalizing x1 x2 x3 x5 x6 x7 x8 x9 h with
  | zero => cases hf
  | succ n ih => exact ks_m_find_136 hK67 (fun x1 x2 x3 x5 x6 x7 x8 x9 h L0 hf => ih (h := h) (x1 := x1) (x2 := x2) (x3 := x3) (x5 := x5) (x6 := x6) (x7 := x7) (x8 := x8) (x9 := x9) L0 hf) L0 hf
def b_m_find_131 (K67 : Int32 → Int32 → Int32 → Int32 → Int32 → XH → Option (Int32 × XH)) (x1 : Int32) (x2 : Int32) (x3 : Int32) (x5 : Int32) (x6 : Int32) (x7 : Int32) (y0 : Int32) (h : XH) : Option (Int32 × XH) := (b_m_find_136 K67 100000 x1 x2 x3 x5 x6 x7 y0 0 h)
set_option maxRecDepth 20000 in
theorem kb_m_find_131 {l : Launch} {G : XG} {d : Nat} {K67 : Int32 → Int32 → Int32 → Int32 → Int32 → XH → Option (Int32 × XH)} {x1 : Int32} {x2 : Int32} {x3 : Int32} {x5 : Int32} {x6 : Int32} {x7 : Int32} {y0 : Int32} {h : XH} {r : Int32 × XH} (hK67 : ∀ (x1 : Int32) (x2 : Int32) (x3 : Int32) (x5 : Int32) (x6 : Int32) (h : XH), LY h → K67 x1 x2 x3 x5 x6 h = some r → XR l G xEX12_find (d + 1) (67, [some (.ref 1262), some (.int x1), some (.int x2), some (.int x3), none, some (.int x5), some (.int x6), none, none, none], [], h) (fun C => ∃ v, xRet xEX12_find C v ∧ (C.2.2.2 = r.2 ∧ v = some (.int r.1)) ∧ LY r.2)) (L0 : LY h) (hf : b_m_find_131 K67 x1 x2 x3 x5 x6 x7 y0 h = some r) : XR l G xEX12_find (d + 1) (131, [some (.ref 1262), some (.int x1), some (.int x2), some (.int x3), none, some (.int x5), some (.int x6), some (.int x7), none, none], [(.int y0)], h) (fun C => ∃ v, xRet xEX12_find C v ∧ (C.2.2.2 = r.2 ∧ v = some (.int r.1)) ∧ LY r.2) := by
  unfold b_m_find_131 at hf
  refine XS.go (XS.lcl (L3 := [some (.ref 1262), some (.int x1), some (.int x2), some (.int x3), none, some (.int x5), some (.int x6), some (.int x7), some (.int y0), none]) (s_istore rfl (Nat.le_of_ble_eq_true rfl)) rfl) ?_
  refine XS.go (s_iconst (v := 0) rfl rfl) ?_
  refine XS.go (XS.lcl (L3 := [some (.ref 1262), some (.int x1), some (.int x2), some (.int x3), none, some (.int x5), some (.int x6), some (.int x7), some (.int y0), some (.int 0)]) (s_istore rfl (Nat.le_of_ble_eq_true rfl)) rfl) ?_
  exact XR.forget (L2 := [some (.ref 1262), some (.int x1), some (.int x2), some (.int x3), none, some (.int x5), some (.int x6), some (.int x7), some (.int y0), some (.int 0)]) ⟨rfl, ⟨rfl, ⟨rfl, ⟨rfl, ⟨rfl, ⟨rfl, ⟨rfl, ⟨rfl, ⟨rfl, trivial⟩⟩⟩⟩⟩⟩⟩⟩⟩ (kb_m_find_136 hK67 L0 hf)
def b_m_find_105 (K67 : Int32 → Int32 → Int32 → Int32 → Int32 → XH → Option (Int32 × XH)) (x1 : Int32) (x2 : Int32) (x3 : Int32) (x5 : Int32) (x6 : Int32) (y0 : Int32) (h : XH) : Option (Int32 × XH) := (if 0 ≤ y0 ∧ y0 < nI 4001 then (if ¬ ((hi h 1268 (Int32.toNatClampNeg y0)) - (hi h 1267 (Int32.toNatClampNeg y0))) = x3 then (b_m_find_131 K67 x1 x2 x3 x5 x6 y0 0 h) else (b_m_find_131 K67 x1 x2 x3 x5 x6 y0 1 h)) else none)
set_option maxRecDepth 20000 in
theorem kb_m_find_105 {l : Launch} {G : XG} {d : Nat} {K67 : Int32 → Int32 → Int32 → Int32 → Int32 → XH → Option (Int32 × XH)} {x1 : Int32} {x2 : Int32} {x3 : Int32} {x5 : Int32} {x6 : Int32} {y0 : Int32} {h : XH} {r : Int32 × XH} (hK67 : ∀ (x1 : Int32) (x2 : Int32) (x3 : Int32) (x5 : Int32) (x6 : Int32) (h : XH), LY h → K67 x1 x2 x3 x5 x6 h = some r → XR l G xEX12_find (d + 1) (67, [some (.ref 1262), some (.int x1), some (.int x2), some (.int x3), none, some (.int x5), some (.int x6), none, none, none], [], h) (fun C => ∃ v, xRet xEX12_find C v ∧ (C.2.2.2 = r.2 ∧ v = some (.int r.1)) ∧ LY r.2)) (L0 : LY h) (hf : b_m_find_105 K67 x1 x2 x3 x5 x6 y0 h = some r) : XR l G xEX12_find (d + 1) (105, [some (.ref 1262), some (.int x1), some (.int x2), some (.int x3), none, some (.int x5), some (.int x6), none, none, none], [(.int y0)], h) (fun C => ∃ v, xRet xEX12_find C v ∧ (C.2.2.2 = r.2 ∧ v = some (.int r.1)) ∧ LY r.2) := by
  unfold b_m_find_105 at hf
  refine XS.go (XS.lcl (L3 := [some (.ref 1262), some (.int x1), some (.int x2), some (.int x3), none, some (.int x5), some (.int x6), some (.int y0), none, none]) (s_istore rfl (Nat.le_of_ble_eq_true rfl)) rfl) ?_
  refine XS.go (s_aloadn rfl rfl rfl) ?_
  refine XS.go (s_getr rfl xf12_25 (LY.lt L0 (by decide)) (LY.k1262 L0) (by decide) rfl (LY.r1262_10 L0)) ?_
  refine XS.go (s_iload rfl rfl) ?_
  replace hf := xi_none hf
  obtain ⟨qk8, hf⟩ := hf
  refine XS.go (s_ialde rfl (LY.lt L0 (by decide)) (LY.k1268 L0) (inLit (LY.n1268 L0) qk8.1 qk8.2 (by decide)) rfl) ?_
  refine XS.go (s_aloadn rfl rfl rfl) ?_
  refine XS.go (s_getr rfl xf12_22 (LY.lt L0 (by decide)) (LY.k1262 L0) (by decide) rfl (LY.r1262_9 L0)) ?_
  refine XS.go (s_iload rfl rfl) ?_
  refine XS.go (s_ialde rfl (LY.lt L0 (by decide)) (LY.k1267 L0) (inLit (LY.n1267 L0) qk8.1 qk8.2 (by decide)) rfl) ?_
  refine XS.go (s_isub rfl) ?_
  refine XS.go (s_iloadn rfl rfl rfl) ?_
  refine r_icmp_ne (tgt := 130) rfl rfl (fun qc9 => ?_) (fun qc9 => ?_)
  · replace hf := xi_pos hf qc9
    refine XS.go (s_iconst (v := 0) rfl rfl) ?_
    exact XR.forget (L2 := [some (.ref 1262), some (.int x1), some (.int x2), some (.int x3), none, some (.int x5), some (.int x6), some (.int y0), none, none]) ⟨rfl, ⟨rfl, ⟨rfl, ⟨rfl, ⟨rfl, ⟨rfl, ⟨rfl, trivial⟩⟩⟩⟩⟩⟩⟩ (kb_m_find_131 hK67 L0 hf)
  · replace hf := xi_neg hf qc9
    refine XS.go (s_iconst (v := 1) rfl rfl) ?_
    refine XS.go (s_goto (tgt := 131) rfl rfl) ?_
    exact XR.forget (L2 := [some (.ref 1262), some (.int x1), some (.int x2), some (.int x3), none, some (.int x5), some (.int x6), some (.int y0), none, none]) ⟨rfl, ⟨rfl, ⟨rfl, ⟨rfl, ⟨rfl, ⟨rfl, ⟨rfl, trivial⟩⟩⟩⟩⟩⟩⟩ (kb_m_find_131 hK67 L0 hf)
def s_m_find_67 (K67 : Int32 → Int32 → Int32 → Int32 → Int32 → XH → Option (Int32 × XH)) (x1 : Int32) (x2 : Int32) (x3 : Int32) (x5 : Int32) (x6 : Int32) (h : XH) : Option (Int32 × XH) := (if x5 ≤ x6 then (some ((-1), h)) else (if x1 = 0 then (if 0 ≤ ((16 * x2) + x6) ∧ ((16 * x2) + x6) < nI 256 then (b_m_find_105 K67 x1 x2 x3 x5 x6 (hi h 1285 (Int32.toNatClampNeg ((16 * x2) + x6))) h) else none) else (if 0 ≤ ((12 * x2) + x6) ∧ ((12 * x2) + x6) < nI 144 then (b_m_find_105 K67 x1 x2 x3 x5 x6 (hi h 1276 (Int32.toNatClampNeg ((12 * x2) + x6))) h) else none)))
set_option maxRecDepth 20000 in
theorem ks_m_find_67 {l : Launch} {G : XG} {d : Nat} {K67 : Int32 → Int32 → Int32 → Int32 → Int32 → XH → Option (Int32 × XH)} {x1 : Int32} {x2 : Int32} {x3 : Int32} {x5 : Int32} {x6 : Int32} {h : XH} {r : Int32 × XH} (hK67 : ∀ (x1 : Int32) (x2 : Int32) (x3 : Int32) (x5 : Int32) (x6 : Int32) (h : XH), LY h → K67 x1 x2 x3 x5 x6 h = some r → XR l G xEX12_find (d + 1) (67, [some (.ref 1262), some (.int x1), some (.int x2), some (.int x3), none, some (.int x5), some (.int x6), none, none, none], [], h) (fun C => ∃ v, xRet xEX12_find C v ∧ (C.2.2.2 = r.2 ∧ v = some (.int r.1)) ∧ LY r.2)) (L0 : LY h) (hf : s_m_find_67 K67 x1 x2 x3 x5 x6 h = some r) : XR l G xEX12_find (d + 1) (67, [some (.ref 1262), some (.int x1), some (.int x2), some (.int x3), none, some (.int x5), some (.int x6), none, none, none], [], h) (fun C => ∃ v, xRet xEX12_find C v ∧ (C.2.2.2 = r.2 ∧ v = some (.int r.1)) ∧ LY r.2) := by
  unfold s_m_find_67 at hf
  refine XS.go (s_iload rfl rfl) ?_
  refine XS.go (s_iload rfl rfl) ?_
  refine r_icmp_ge (tgt := 199) rfl rfl (fun qc10 => ?_) (fun qc10 => ?_)
  · replace hf := xi_pos hf qc10
    refine XS.go (s_iconst (v := (-1)) rfl rfl) ?_
    cases hf
    exact XR.reti rfl rfl (fun hret => ⟨_, hret, ⟨rfl, rfl⟩, L0⟩)
  · replace hf := xi_neg hf qc10
    refine XS.go (s_iloadn rfl rfl rfl) ?_
    refine r_if_eq (tgt := 93) rfl rfl (fun qc11 => ?_) (fun qc11 => ?_)
    · replace hf := xi_pos hf qc11
      refine XS.go (s_aloadn rfl rfl rfl) ?_
      refine XS.go (s_getr rfl xf12_76 (LY.lt L0 (by decide)) (LY.k1262 L0) (by decide) rfl (LY.r1262_34 L0)) ?_
      refine XS.go (s_bipush (v := 16) rfl rfl) ?_
      refine XS.go (s_iloadn rfl rfl rfl) ?_
      refine XS.go (s_imul rfl) ?_
      refine XS.go (s_iload rfl rfl) ?_
      refine XS.go (s_iadd rfl) ?_
      replace hf := xi_none hf
      obtain ⟨qk12, hf⟩ := hf
      refine XS.go (s_ialde rfl (LY.lt L0 (by decide)) (LY.k1285 L0) (inLit (LY.n1285 L0) qk12.1 qk12.2 (by decide)) rfl) ?_
      exact XR.forget (L2 := [some (.ref 1262), some (.int x1), some (.int x2), some (.int x3), none, some (.int x5), some (.int x6), none, none, none]) ⟨rfl, ⟨rfl, ⟨rfl, ⟨rfl, ⟨rfl, ⟨rfl, trivial⟩⟩⟩⟩⟩⟩ (kb_m_find_105 hK67 L0 hf)
    · replace hf := xi_neg hf qc11
      refine XS.go (s_aloadn rfl rfl rfl) ?_
      refine XS.go (s_getr rfl xf12_49 (LY.lt L0 (by decide)) (LY.k1262 L0) (by decide) rfl (LY.r1262_24 L0)) ?_
      refine XS.go (s_bipush (v := 12) rfl rfl) ?_
      refine XS.go (s_iloadn rfl rfl rfl) ?_
      refine XS.go (s_imul rfl) ?_
      refine XS.go (s_iload rfl rfl) ?_
      refine XS.go (s_iadd rfl) ?_
      replace hf := xi_none hf
      obtain ⟨qk13, hf⟩ := hf
      refine XS.go (s_ialde rfl (LY.lt L0 (by decide)) (LY.k1276 L0) (inLit (LY.n1276 L0) qk13.1 qk13.2 (by decide)) rfl) ?_
      refine XS.go (s_goto (tgt := 105) rfl rfl) ?_
      exact XR.forget (L2 := [some (.ref 1262), some (.int x1), some (.int x2), some (.int x3), none, some (.int x5), some (.int x6), none, none, none]) ⟨rfl, ⟨rfl, ⟨rfl, ⟨rfl, ⟨rfl, ⟨rfl, trivial⟩⟩⟩⟩⟩⟩ (kb_m_find_105 hK67 L0 hf)
def b_m_find_67 : Nat → Int32 → Int32 → Int32 → Int32 → Int32 → XH → Option (Int32 × XH)
  | 0, _, _, _, _, _, _ => none
  | n + 1, x1, x2, x3, x5, x6, h => s_m_find_67 (b_m_find_67 n) x1 x2 x3 x5 x6 h
theorem kb_m_find_67 {l : Launch} {G : XG} {d : Nat} {n : Nat} {x1 : Int32} {x2 : Int32} {x3 : Int32} {x5 : Int32} {x6 : Int32} {h : XH} {r : Int32 × XH} (L0 : LY h) (hf : b_m_find_67 n x1 x2 x3 x5 x6 h = some r) : XR l G xEX12_find (d + 1) (67, [some (.ref 1262), some (.int x1), some (.int x2), some (.int x3), none, some (.int x5), some (.int x6), none, none, none], [], h) (fun C => ∃ v, xRet xEX12_find C v ∧ (C.2.2.2 = r.2 ∧ v = some (.int r.1)) ∧ LY r.2) := by
  induction n generalizing x1 x2 x3 x5 x6 h with
  | zero => cases hf
  | succ n ih => exact ks_m_find_67 (fun x1 x2 x3 x5 x6 h L0 hf => ih (h := h) (x1 := x1) (x2 := x2) (x3 := x3) (x5 := x5) (x6 := x6) L0 hf) L0 hf
def b_m_find_62 (x1 : Int32) (x2 : Int32) (x3 : Int32) (y0 : Int32) (h : XH) : Option (Int32 × XH) := (b_m_find_67 100000 x1 x2 x3 y0 0 h)
set_option maxRecDepth 20000 in
theorem kb_m_find_62 {l : Launch} {G : XG} {d : Nat} {x1 : Int32} {x2 : Int32} {x3 : Int32} {y0 : Int32} {h : XH} {r : Int32 × XH} (L0 : LY h) (hf : b_m_find_62 x1 x2 x3 y0 h = some r) : XR l G xEX12_find (d + 1) (62, [some (.ref 1262), some (.int x1), some (.int x2), some (.int x3), none, none, none, none, none, none], [(.int y0)], h) (fun C => ∃ v, xRet xEX12_find C v ∧ (C.2.2.2 = r.2 ∧ v = some (.int r.1)) ∧ LY r.2) := by
  unfold b_m_find_62 at hf
  refine XS.go (XS.lcl (L3 := [some (.ref 1262), some (.int x1), some (.int x2), some (.int x3), none, some (.int y0), none, none, none, none]) (s_istore rfl (Nat.le_of_ble_eq_true rfl)) rfl) ?_
  refine XS.go (s_iconst (v := 0) rfl rfl) ?_
  refine XS.go (XS.lcl (L3 := [some (.ref 1262), some (.int x1), some (.int x2), some (.int x3), none, some (.int y0), some (.int 0), none, none, none]) (s_istore rfl (Nat.le_of_ble_eq_true rfl)) rfl) ?_
  exact XR.forget (L2 := [some (.ref 1262), some (.int x1), some (.int x2), some (.int x3), none, some (.int y0), some (.int 0), none, none, none]) ⟨rfl, ⟨rfl, ⟨rfl, ⟨rfl, ⟨rfl, ⟨rfl, trivial⟩⟩⟩⟩⟩⟩ (kb_m_find_67 L0 hf)
def b_m_find_32 (x1 : Int32) (x2 : Int32) (x3 : Int32) (y0 : Int32) (h : XH) : Option (Int32 × XH) := (if ¬ y0 = 0 then (if x1 = 0 then (if 0 ≤ x2 ∧ x2 < nI 16 then (b_m_find_62 x1 x2 x3 (hi h 1283 (Int32.toNatClampNeg x2)) h) else none) else (if 0 ≤ x2 ∧ x2 < nI 12 then (b_m_find_62 x1 x2 x3 (hi h 1273 (Int32.toNatClampNeg x2)) h) else none)) else (b_m_find_62 x1 x2 x3 0 h))
set_option maxRecDepth 20000 in
theorem kb_m_find_32 {l : Launch} {G : XG} {d : Nat} {x1 : Int32} {x2 : Int32} {x3 : Int32} {y0 : Int32} {h : XH} {r : Int32 × XH} (L0 : LY h) (hf : b_m_find_32 x1 x2 x3 y0 h = some r) : XR l G xEX12_find (d + 1) (32, [some (.ref 1262), some (.int x1), some (.int x2), some (.int x3), none, none, none, none, none, none], [(.int y0)], h) (fun C => ∃ v, xRet xEX12_find C v ∧ (C.2.2.2 = r.2 ∧ v = some (.int r.1)) ∧ LY r.2) := by
  unfold b_m_find_32 at hf
  refine XS.go (XS.lcl (L3 := [some (.ref 1262), some (.int x1), some (.int x2), some (.int x3), some (.int y0), none, none, none, none, none]) (s_istore rfl (Nat.le_of_ble_eq_true rfl)) rfl) ?_
  refine XS.go (s_iload rfl rfl) ?_
  refine r_if_ne (tgt := 43) rfl rfl (fun qc14 => ?_) (fun qc14 => ?_)
  · replace hf := xi_pos hf qc14
    refine XS.go (s_iloadn rfl rfl rfl) ?_
    refine r_if_eq (tgt := 56) rfl rfl (fun qc15 => ?_) (fun qc15 => ?_)
    · replace hf := xi_pos hf qc15
      refine XS.go (s_aloadn rfl rfl rfl) ?_
      refine XS.go (s_getr rfl xf12_70 (LY.lt L0 (by decide)) (LY.k1262 L0) (by decide) rfl (LY.r1262_32 L0)) ?_
      refine XS.go (s_iloadn rfl rfl rfl) ?_
      replace hf := xi_none hf
      obtain ⟨qk16, hf⟩ := hf
      refine XS.go (s_ialde rfl (LY.lt L0 (by decide)) (LY.k1283 L0) (inLit (LY.n1283 L0) qk16.1 qk16.2 (by decide)) rfl) ?_
      exact XR.forget (L2 := [some (.ref 1262), some (.int x1), some (.int x2), some (.int x3), none, none, none, none, none, none]) ⟨rfl, ⟨rfl, ⟨rfl, ⟨rfl, trivial⟩⟩⟩⟩ (kb_m_find_62 L0 hf)
    · replace hf := xi_neg hf qc15
      refine XS.go (s_aloadn rfl rfl rfl) ?_
      refine XS.go (s_getr rfl xf12_40 (LY.lt L0 (by decide)) (LY.k1262 L0) (by decide) rfl (LY.r1262_21 L0)) ?_
      refine XS.go (s_iloadn rfl rfl rfl) ?_
      replace hf := xi_none hf
      obtain ⟨qk17, hf⟩ := hf
      refine XS.go (s_ialde rfl (LY.lt L0 (by decide)) (LY.k1273 L0) (inLit (LY.n1273 L0) qk17.1 qk17.2 (by decide)) rfl) ?_
      refine XS.go (s_goto (tgt := 62) rfl rfl) ?_
      exact XR.forget (L2 := [some (.ref 1262), some (.int x1), some (.int x2), some (.int x3), none, none, none, none, none, none]) ⟨rfl, ⟨rfl, ⟨rfl, ⟨rfl, trivial⟩⟩⟩⟩ (kb_m_find_62 L0 hf)
  · replace hf := xi_neg hf qc14
    refine XS.go (s_iconst (v := 0) rfl rfl) ?_
    refine XS.go (s_goto (tgt := 62) rfl rfl) ?_
    exact XR.forget (L2 := [some (.ref 1262), some (.int x1), some (.int x2), some (.int x3), none, none, none, none, none, none]) ⟨rfl, ⟨rfl, ⟨rfl, ⟨rfl, trivial⟩⟩⟩⟩ (kb_m_find_62 L0 hf)
def f_m_find (a0 : Int32) (a1 : Int32) (h : XH) : Option (Int32 × XH) := (if a0 = 0 then (Option.bind (f_m_isTable a1 (hsi (hsi h 1262 0 0) 1262 2 0)) fun r19 => (b_m_find_32 a0 a1 (hi h 1262 2) r19.1 r19.2)) else (Option.bind (f_m_isStruct a1 (hsi (hsi h 1262 0 0) 1262 2 0)) fun r22 => (b_m_find_32 a0 a1 (hi h 1262 2) r22.1 r22.2)))
set_option maxRecDepth 20000 in
theorem kf_m_find {l : Launch} {G : XG} {d : Nat} {a0 : Int32} {a1 : Int32} {h : XH} {r : Int32 × XH} (L0 : LY h) (hf : f_m_find a0 a1 h = some r) : XC l G xEX12_find (d + 1) [.ref 1262, .int a0, .int a1] h (fun v h2 => (h2 = r.2 ∧ v = some (.int r.1)) ∧ LY r.2) := by
  refine XC.virt xvX12_find (Nat.le_of_ble_eq_true rfl) ?_
  unfold f_m_find at hf
  refine XR.norm (L3 := [some (.ref 1262), some (.int a0), some (.int a1), none, none, none, none, none, none, none]) rfl ?_
  refine XS.go (s_aloadn rfl rfl rfl) ?_
  refine XS.go (s_iconst (v := 0) rfl rfl) ?_
  refine XS.go (s_puti rfl xf12_175 (LY.lt L0 (by decide)) (LY.k1262 L0) (by decide) rfl (Or.inl rfl)) ?_
  refine XS.go (s_aloadn rfl rfl rfl) ?_
  refine XS.go (s_getie rfl xf12_178 (LY.lt (by simp only [LY_si, LY_sj]; exact L0) (by decide)) (LY.k1262 (by simp only [LY_si, LY_sj]; exact L0)) (by decide) rfl (hi_hsi_nk (by decide))) ?_
  refine XS.go (XS.lcl (L3 := [some (.ref 1262), some (.int a0), some (.int a1), some (.int (hi h 1262 2)), none, none, none, none, none, none]) (s_istoren rfl rfl (Nat.le_of_ble_eq_true rfl)) rfl) ?_
  refine XS.go (s_aloadn rfl rfl rfl) ?_
  refine XS.go (s_iconst (v := 0) rfl rfl) ?_
  refine XS.go (s_puti rfl xf12_178 (LY.lt (by simp only [LY_si, LY_sj]; exact L0) (by decide)) (LY.k1262 (by simp only [LY_si, LY_sj]; exact L0)) (by decide) rfl (Or.inl rfl)) ?_
  refine XS.go (s_iloadn rfl rfl rfl) ?_
  refine r_if_eq (tgt := 27) rfl rfl (fun qc18 => ?_) (fun qc18 => ?_)
  · replace hf := xi_pos hf qc18
    refine XS.go (s_aloadn rfl rfl rfl) ?_
    refine XS.go (s_iloadn rfl rfl rfl) ?_
    replace hf := xb_some hf
    obtain ⟨r19, e20, hf⟩ := hf
    refine r_callv rfl xvX12_isTable xm12_372 (kf_m_isTable (d := d) (by simp only [LY_si, LY_sj]; exact L0) e20) (LY.lt (by simp only [LY_si, LY_sj]; exact L0) (by decide)) (LY.k1262 (by simp only [LY_si, LY_sj]; exact L0)) (by decide) rfl rfl (dl0 (by decide)) (by decide) (Nat.le_of_ble_eq_true rfl) ?_
    rintro _ _ ⟨⟨rfl, rfl⟩, L21⟩
    exact XR.forget (L2 := [some (.ref 1262), some (.int a0), some (.int a1), some (.int (hi h 1262 2)), none, none, none, none, none, none]) ⟨rfl, ⟨rfl, ⟨rfl, ⟨rfl, trivial⟩⟩⟩⟩ (kb_m_find_32 L21 hf)
  · replace hf := xi_neg hf qc18
    refine XS.go (s_aloadn rfl rfl rfl) ?_
    refine XS.go (s_iloadn rfl rfl rfl) ?_
    replace hf := xb_some hf
    obtain ⟨r22, e23, hf⟩ := hf
    refine r_callv rfl xvX12_isStruct xm12_369 (kf_m_isStruct (d := d) (by simp only [LY_si, LY_sj]; exact L0) e23) (LY.lt (by simp only [LY_si, LY_sj]; exact L0) (by decide)) (LY.k1262 (by simp only [LY_si, LY_sj]; exact L0)) (by decide) rfl rfl (dl0 (by decide)) (by decide) (Nat.le_of_ble_eq_true rfl) ?_
    rintro _ _ ⟨⟨rfl, rfl⟩, L24⟩
    refine XS.go (s_goto (tgt := 32) rfl rfl) ?_
    exact XR.forget (L2 := [some (.ref 1262), some (.int a0), some (.int a1), some (.int (hi h 1262 2)), none, none, none, none, none, none]) ⟨rfl, ⟨rfl, ⟨rfl, ⟨rfl, trivial⟩⟩⟩⟩ (kb_m_find_32 L24 hf)
def f_m_push (a0 : Int64) (h : XH) : Option (Int32 × XH) := (if ¬ (hi h 1262 55) = 600 then (if 0 ≤ (hi h 1262 55) ∧ (hi h 1262 55) < nI 600 then (some (((hi h 1262 55) + 1), (hsi (hsj (hsi h 1262 0 0) 1298 (Int32.toNatClampNeg (hi h 1262 55)) a0) 1262 55 ((hi h 1262 55) + 1)))) else none) else (some ((-1), (hsi h 1262 0 0))))
set_option maxRecDepth 20000 in
theorem kf_m_push {l : Launch} {G : XG} {d : Nat} {a0 : Int64} {h : XH} {r : Int32 × XH} (L0 : LY h) (hf : f_m_push a0 h = some r) : XC l G xEX12_push d [.ref 1262, .long a0] h (fun v h2 => (h2 = r.2 ∧ v = some (.int r.1)) ∧ LY r.2) := by
  refine XC.virt xvX12_push (Nat.le_of_ble_eq_true rfl) ?_
  unfold f_m_push at hf
  refine XR.norm (L3 := [some (.ref 1262), some (.long a0), none]) rfl ?_
  refine XS.go (s_aloadn rfl rfl rfl) ?_
  refine XS.go (s_iconst (v := 0) rfl rfl) ?_
  refine XS.go (s_puti rfl xf12_175 (LY.lt L0 (by decide)) (LY.k1262 L0) (by decide) rfl (Or.inl rfl)) ?_
  refine XS.go (s_aloadn rfl rfl rfl) ?_
  refine XS.go (s_getie rfl xf12_379 (LY.lt (by simp only [LY_si, LY_sj]; exact L0) (by decide)) (LY.k1262 (by simp only [LY_si, LY_sj]; exact L0)) (by decide) rfl (hi_hsi_nk (by decide))) ?_
  refine XS.go (s_sipush (v := 600) rfl rfl) ?_
  refine r_icmp_ne (tgt := 17) rfl rfl (fun qc1 => ?_) (fun qc1 => ?_)
  · replace hf := xi_pos hf qc1
    refine XS.go (s_aloadn rfl rfl rfl) ?_
    refine XS.go (s_getr rfl xf12_116 (LY.lt (by simp only [LY_si, LY_sj]; exact L0) (by decide)) (LY.k1262 (by simp only [LY_si, LY_sj]; exact L0)) (by decide) rfl (LY.r1262_54 (by simp only [LY_si, LY_sj]; exact L0))) ?_
    refine XS.go (s_aloadn rfl rfl rfl) ?_
    refine XS.go (s_getie rfl xf12_379 (LY.lt (by simp only [LY_si, LY_sj]; exact L0) (by decide)) (LY.k1262 (by simp only [LY_si, LY_sj]; exact L0)) (by decide) rfl (hi_hsi_nk (by decide))) ?_
    refine XS.go (s_lloadn rfl rfl rfl) ?_
    replace hf := xi_none hf
    obtain ⟨qk2, hf⟩ := hf
    refine XS.go (s_last rfl (LY.lt (by simp only [LY_si, LY_sj]; exact L0) (by decide)) (LY.k1298 (by simp only [LY_si, LY_sj]; exact L0)) (inLit (LY.n1298 (by simp only [LY_si, LY_sj]; exact L0)) qk2.1 qk2.2 (by decide))) ?_
    refine XS.go (s_aloadn rfl rfl rfl) ?_
    refine XS.go (s_dup rfl rfl) ?_
    refine XS.go (s_getie rfl xf12_379 (LY.lt (by simp only [LY_si, LY_sj]; exact L0) (by decide)) (LY.k1262 (by simp only [LY_si, LY_sj]; exact L0)) (by decide) rfl ((congrFun hi_hsj _).trans (hi_hsi_nk (by decide)))) ?_
    refine XS.go (s_iconst (v := 1) rfl rfl) ?_
    refine XS.go (s_iadd rfl) ?_
    refine XS.go (s_puti rfl xf12_379 (LY.lt (by simp only [LY_si, LY_sj]; exact L0) (by decide)) (LY.k1262 (by simp only [LY_si, LY_sj]; exact L0)) (by decide) rfl (Or.inl rfl)) ?_
    refine XS.go (s_aloadn rfl rfl rfl) ?_
    refine XS.go (s_getie rfl xf12_379 (LY.lt (by simp only [LY_si, LY_sj]; exact L0) (by decide)) (LY.k1262 (by simp only [LY_si, LY_sj]; exact L0)) (by decide) rfl hi_hsi_eq) ?_
    cases hf
    exact XR.reti rfl rfl (fun hret => ⟨_, hret, ⟨rfl, rfl⟩, (by simp only [LY_si, LY_sj]; exact L0)⟩)
  · replace hf := xi_neg hf qc1
    refine XS.go (s_iconst (v := (-1)) rfl rfl) ?_
    cases hf
    exact XR.reti rfl rfl (fun hret => ⟨_, hret, ⟨rfl, rfl⟩, (by simp only [LY_si, LY_sj]; exact L0)⟩)
def s_m_fill_3 (K3 : Int32 → Int32 → Int32 → Int32 → XH → Option (Int32 × XH)) (x1 : Int32) (x2 : Int32) (x3 : Int32) (x4 : Int32) (h : XH) : Option (Int32 × XH) := (if ¬ x3 = 0 then (if (((x1 + x4) + x2) - ((x1 + x4) + x2) / x3 * x3) = 0 then (some (x4, h)) else (K3 x1 x2 x3 (x4 + 1) h)) else none)
set_option maxRecDepth 20000 in
theorem ks_m_fill_3 {l : Launch} {G : XG} {d : Nat} {K3 : Int32 → Int32 → Int32 → Int32 → XH → Option (Int32 × XH)} {x1 : Int32} {x2 : Int32} {x3 : Int32} {x4 : Int32} {h : XH} {r : Int32 × XH} (hK3 : ∀ (x1 : Int32) (x2 : Int32) (x3 : Int32) (x4 : Int32) (h : XH), LY h → K3 x1 x2 x3 x4 h = some r → XR l G xEX12_fill d (3, [none, some (.int x1), some (.int x2), some (.int x3), some (.int x4)], [], h) (fun C => ∃ v, xRet xEX12_fill C v ∧ (C.2.2.2 = r.2 ∧ v = some (.int r.1)) ∧ LY r.2)) (L0 : LY h) (hf : s_m_fill_3 K3 x1 x2 x3 x4 h = some r) : XR l G xEX12_fill d (3, [none, some (.int x1), some (.int x2), some (.int x3), some (.int x4)], [], h) (fun C => ∃ v, xRet xEX12_fill C v ∧ (C.2.2.2 = r.2 ∧ v = some (.int r.1)) ∧ LY r.2) := by
  unfold s_m_fill_3 at hf
  refine XS.go (s_iloadn rfl rfl rfl) ?_
  refine XS.go (s_iload rfl rfl) ?_
  refine XS.go (s_iadd rfl) ?_
  refine XS.go (s_iloadn rfl rfl rfl) ?_
  refine XS.go (s_iadd rfl) ?_
  refine XS.go (s_iloadn rfl rfl rfl) ?_
  replace hf := xi_none hf
  obtain ⟨qk1, hf⟩ := hf
  refine XS.go (s_irem qk1 rfl) ?_
  refine r_if_eq (tgt := 20) rfl rfl (fun qc2 => ?_) (fun qc2 => ?_)
  · replace hf := xi_pos hf qc2
    refine XS.go (s_iload rfl rfl) ?_
    cases hf
    exact XR.reti rfl rfl (fun hret => ⟨_, hret, ⟨rfl, rfl⟩, L0⟩)
  · replace hf := xi_neg hf qc2
    refine XS.go (XS.lcl (L3 := [none, some (.int x1), some (.int x2), some (.int x3), some (.int (x4 + 1))]) (s_inc rfl rfl (Nat.le_of_ble_eq_true rfl)) rfl) ?_
    refine XS.go (s_goto (tgt := 3) rfl rfl) ?_
    exact XR.forget (L2 := [none, some (.int x1), some (.int x2), some (.int x3), some (.int (x4 + 1))]) ⟨rfl, ⟨rfl, ⟨rfl, ⟨rfl, trivial⟩⟩⟩⟩ (hK3 x1 x2 x3 (x4 + 1) _ L0 hf)
def b_m_fill_3 : Nat → Int32 → Int32 → Int32 → Int32 → XH → Option (Int32 × XH)
  | 0, _, _, _, _, _ => none
  | n + 1, x1, x2, x3, x4, h => s_m_fill_3 (b_m_fill_3 n) x1 x2 x3 x4 h
theorem kb_m_fill_3 {l : Launch} {G : XG} {d : Nat} {n : Nat} {x1 : Int32} {x2 : Int32} {x3 : Int32} {x4 : Int32} {h : XH} {r : Int32 × XH} (L0 : LY h) (hf : b_m_fill_3 n x1 x2 x3 x4 h = some r) : XR l G xEX12_fill d (3, [none, some (.int x1), some (.int x2), some (.int x3), some (.int x4)], [], h) (fun C => ∃ v, xRet xEX12_fill C v ∧ (C.2.2.2 = r.2 ∧ v = some (.int r.1)) ∧ LY r.2) := by
  induction n generalizing x1 x2 x3 x4 h with
  | zero => cases hf
  | succ n ih => exact ks_m_fill_3 (fun x1 x2 x3 x4 h L0 hf => ih (h := h) (x1 := x1) (x2 := x2) (x3 := x3) (x4 := x4) L0 hf) L0 hf
def f_m_fill (a0 : Int32) (a1 : Int32) (a2 : Int32) (h : XH) : Option (Int32 × XH) := (b_m_fill_3 100000 a0 a1 a2 0 h)
set_option maxRecDepth 20000 in
theorem kf_m_fill {l : Launch} {G : XG} {d : Nat} {a0 : Int32} {a1 : Int32} {a2 : Int32} {h : XH} {r : Int32 × XH} (L0 : LY h) (hf : f_m_fill a0 a1 a2 h = some r) : XC l G xEX12_fill d [.ref 1262, .int a0, .int a1, .int a2] h (fun v h2 => (h2 = r.2 ∧ v = some (.int r.1)) ∧ LY r.2) := by
  refine XC.virt xvX12_fill (Nat.le_of_ble_eq_true rfl) ?_
  unfold f_m_fill at hf
  refine XR.norm (L3 := [some (.ref 1262), some (.int a0), some (.int a1), some (.int a2), none]) rfl ?_
  refine XS.go (s_iconst (v := 0) rfl rfl) ?_
  refine XS.go (XS.lcl (L3 := [some (.ref 1262), some (.int a0), some (.int a1), some (.int a2), some (.int 0)]) (s_istore rfl (Nat.le_of_ble_eq_true rfl)) rfl) ?_
  exact XR.forget (L2 := [none, some (.int a0), some (.int a1), some (.int a2), some (.int 0)]) ⟨rfl, ⟨rfl, ⟨rfl, ⟨rfl, trivial⟩⟩⟩⟩ (kb_m_fill_3 L0 hf)
def s_m_ahead_5 (K5 : Int64 → Int32 → XH → Option (Unit × XH)) (x1 : Int64) (x4 : Int32) (h : XH) : Option (Unit × XH) := (if x4 < 0 then (some ((), h)) else (if 0 ≤ (hi h 1262 57) ∧ (hi h 1262 57) < nI 4300 then (K5 x1 (x4 + (-1)) (hsi (hsi h 1299 (Int32.toNatClampNeg (hi h 1262 57)) (Int64.toInt32 ((x1 >>> ((Int32.toInt64 (8 * x4)) &&& 63)) &&& (255 : Int64)))) 1262 57 ((hi h 1262 57) + 1))) else none))
set_option maxRecDepth 20000 in
theorem ks_m_ahead_5 {l : Launch} {G : XG} {d : Nat} {K5 : Int64 → Int32 → XH → Option (Unit × XH)} {x1 : Int64} {x4 : Int32} {h : XH} {r : Unit × XH} (hK5 : ∀ (x1 : Int64) (x4 : Int32) (h : XH), LY h → K5 x1 x4 h = some r → XR l G xEX12_ahead d (5, [some (.ref 1262), some (.long x1), none, none, some (.int x4)], [], h) (fun C => ∃ v, xRet xEX12_ahead C v ∧ (C.2.2.2 = r.2 ∧ v = none) ∧ LY r.2)) (L0 : LY h) (hf : s_m_ahead_5 K5 x1 x4 h = some r) : XR l G xEX12_ahead d (5, [some (.ref 1262), some (.long x1), none, none, some (.int x4)], [], h) (fun C => ∃ v, xRet xEX12_ahead C v ∧ (C.2.2.2 = r.2 ∧ v = none) ∧ LY r.2) := by
  unfold s_m_ahead_5 at hf
  refine XS.go (s_iload rfl rfl) ?_
  refine r_if_lt (tgt := 47) rfl rfl (fun qc1 => ?_) (fun qc1 => ?_)
  · replace hf := xi_pos hf qc1
    cases hf
    exact XR.retv rfl rfl (fun hret => ⟨_, hret, ⟨rfl, rfl⟩, L0⟩)
  · replace hf := xi_neg hf qc1
    refine XS.go (s_aloadn rfl rfl rfl) ?_
    refine XS.go (s_getr rfl xf12_119 (LY.lt L0 (by decide)) (LY.k1262 L0) (by decide) rfl (LY.r1262_56 L0)) ?_
    refine XS.go (s_aloadn rfl rfl rfl) ?_
    refine XS.go (s_getie rfl xf12_382 (LY.lt L0 (by decide)) (LY.k1262 L0) (by decide) rfl rfl) ?_
    refine XS.go (s_lloadn rfl rfl rfl) ?_
    refine XS.go (s_bipush (v := 8) rfl rfl) ?_
    refine XS.go (s_iload rfl rfl) ?_
    refine XS.go (s_imul rfl) ?_
    refine XS.go (s_lshr rfl) ?_
    refine XS.go (s_ldc2 rfl (lg_9 83 rfl rfl)) ?_
    refine XS.go (s_land rfl) ?_
    refine XS.go (s_l2i rfl) ?_
    replace hf := xi_none hf
    obtain ⟨qk2, hf⟩ := hf
    refine XS.go (s_iast rfl (LY.lt L0 (by decide)) (LY.k1299 L0) (inLit (LY.n1299 L0) qk2.1 qk2.2 (by decide))) ?_
    refine XS.go (s_aloadn rfl rfl rfl) ?_
    refine XS.go (s_dup rfl rfl) ?_
    refine XS.go (s_getie rfl xf12_382 (LY.lt (by simp only [LY_si, LY_sj]; exact L0) (by decide)) (LY.k1262 (by simp only [LY_si, LY_sj]; exact L0)) (by decide) rfl (hi_hsi_na (by decide))) ?_
    refine XS.go (s_iconst (v := 1) rfl rfl) ?_
    refine XS.go (s_iadd rfl) ?_
    refine XS.go (s_puti rfl xf12_382 (LY.lt (by simp only [LY_si, LY_sj]; exact L0) (by decide)) (LY.k1262 (by simp only [LY_si, LY_sj]; exact L0)) (by decide) rfl (Or.inl rfl)) ?_
    refine XS.go (XS.lcl (L3 := [some (.ref 1262), some (.long x1), none, none, some (.int (x4 + (-1)))]) (s_dec rfl rfl (Nat.le_of_ble_eq_true rfl)) rfl) ?_
    refine XS.go (s_goto (tgt := 5) rfl rfl) ?_
    exact XR.forget (L2 := [some (.ref 1262), some (.long x1), none, none, some (.int (x4 + (-1)))]) ⟨rfl, ⟨rfl, ⟨rfl, trivial⟩⟩⟩ (hK5 x1 (x4 + (-1)) _ (by simp only [LY_si, LY_sj]; exact L0) hf)
def b_m_ahead_5 : Nat → Int64 → Int32 → XH → Option (Unit × XH)
  | 0, _, _, _ => none
  | n + 1, x1, x4, h => s_m_ahead_5 (b_m_ahead_5 n) x1 x4 h
theorem kb_m_ahead_5 {l : Launch} {G : XG} {d : Nat} {n : Nat} {x1 : Int64} {x4 : Int32} {h : XH} {r : Unit × XH} (L0 : LY h) (hf : b_m_ahead_5 n x1 x4 h = some r) : XR l G xEX12_ahead d (5, [some (.ref 1262), some (.long x1), none, none, some (.int x4)], [], h) (fun C => ∃ v, xRet xEX12_ahead C v ∧ (C.2.2.2 = r.2 ∧ v = none) ∧ LY r.2) := by
  induction n generalizing x1 x4 h with
  | zero => cases hf
  | succ n ih => exact ks_m_ahead_5 (fun x1 x4 h L0 hf => ih (h := h) (x1 := x1) (x4 := x4) L0 hf) L0 hf
def f_m_ahead (a0 : Int64) (a1 : Int32) (h : XH) : Option (Unit × XH) := (b_m_ahead_5 100000 a0 (a1 - 1) h)
set_option maxRecDepth 20000 in
theorem kf_m_ahead {l : Launch} {G : XG} {d : Nat} {a0 : Int64} {a1 : Int32} {h : XH} {r : Unit × XH} (L0 : LY h) (hf : f_m_ahead a0 a1 h = some r) : XC l G xEX12_ahead d [.ref 1262, .long a0, .int a1] h (fun v h2 => (h2 = r.2 ∧ v = none) ∧ LY r.2) := by
  refine XC.virt xvX12_ahead (Nat.le_of_ble_eq_true rfl) ?_
  unfold f_m_ahead at hf
  refine XR.norm (L3 := [some (.ref 1262), some (.long a0), none, some (.int a1), none]) rfl ?_
  refine XS.go (s_iloadn rfl rfl rfl) ?_
  refine XS.go (s_iconst (v := 1) rfl rfl) ?_
  refine XS.go (s_isub rfl) ?_
  refine XS.go (XS.lcl (L3 := [some (.ref 1262), some (.long a0), none, some (.int a1), some (.int (a1 - 1))]) (s_istore rfl (Nat.le_of_ble_eq_true rfl)) rfl) ?_
  exact XR.forget (L2 := [some (.ref 1262), some (.long a0), none, none, some (.int (a1 - 1))]) ⟨rfl, ⟨rfl, ⟨rfl, trivial⟩⟩⟩ (kb_m_ahead_5 L0 hf)
def s_m_zeros_2 (K2 : Int32 → Int32 → XH → Option (Unit × XH)) (x1 : Int32) (x2 : Int32) (h : XH) : Option (Unit × XH) := (if x1 ≤ x2 then (some ((), h)) else (if 0 ≤ (hi h 1262 57) ∧ (hi h 1262 57) < nI 4300 then (K2 x1 (x2 + 1) (hsi (hsi h 1299 (Int32.toNatClampNeg (hi h 1262 57)) 0) 1262 57 ((hi h 1262 57) + 1))) else none))
set_option maxRecDepth 20000 in
theorem ks_m_zeros_2 {l : Launch} {G : XG} {d : Nat} {K2 : Int32 → Int32 → XH → Option (Unit × XH)} {x1 : Int32} {x2 : Int32} {h : XH} {r : Unit × XH} (hK2 : ∀ (x1 : Int32) (x2 : Int32) (h : XH), LY h → K2 x1 x2 h = some r → XR l G xEX12_zeros d (2, [some (.ref 1262), some (.int x1), some (.int x2)], [], h) (fun C => ∃ v, xRet xEX12_zeros C v ∧ (C.2.2.2 = r.2 ∧ v = none) ∧ LY r.2)) (L0 : LY h) (hf : s_m_zeros_2 K2 x1 x2 h = some r) : XR l G xEX12_zeros d (2, [some (.ref 1262), some (.int x1), some (.int x2)], [], h) (fun C => ∃ v, xRet xEX12_zeros C v ∧ (C.2.2.2 = r.2 ∧ v = none) ∧ LY r.2) := by
  unfold s_m_zeros_2 at hf
  refine XS.go (s_iloadn rfl rfl rfl) ?_
  refine XS.go (s_iloadn rfl rfl rfl) ?_
  refine r_icmp_ge (tgt := 33) rfl rfl (fun qc1 => ?_) (fun qc1 => ?_)
  · replace hf := xi_pos hf qc1
    cases hf
    exact XR.retv rfl rfl (fun hret => ⟨_, hret, ⟨rfl, rfl⟩, L0⟩)
  · replace hf := xi_neg hf qc1
    refine XS.go (s_aloadn rfl rfl rfl) ?_
    refine XS.go (s_getr rfl xf12_119 (LY.lt L0 (by decide)) (LY.k1262 L0) (by decide) rfl (LY.r1262_56 L0)) ?_
    refine XS.go (s_aloadn rfl rfl rfl) ?_
    refine XS.go (s_getie rfl xf12_382 (LY.lt L0 (by decide)) (LY.k1262 L0) (by decide) rfl rfl) ?_
    refine XS.go (s_iconst (v := 0) rfl rfl) ?_
    replace hf := xi_none hf
    obtain ⟨qk2, hf⟩ := hf
    refine XS.go (s_iast rfl (LY.lt L0 (by decide)) (LY.k1299 L0) (inLit (LY.n1299 L0) qk2.1 qk2.2 (by decide))) ?_
    refine XS.go (s_aloadn rfl rfl rfl) ?_
    refine XS.go (s_dup rfl rfl) ?_
    refine XS.go (s_getie rfl xf12_382 (LY.lt (by simp only [LY_si, LY_sj]; exact L0) (by decide)) (LY.k1262 (by simp only [LY_si, LY_sj]; exact L0)) (by decide) rfl (hi_hsi_na (by decide))) ?_
    refine XS.go (s_iconst (v := 1) rfl rfl) ?_
    refine XS.go (s_iadd rfl) ?_
    refine XS.go (s_puti rfl xf12_382 (LY.lt (by simp only [LY_si, LY_sj]; exact L0) (by decide)) (LY.k1262 (by simp only [LY_si, LY_sj]; exact L0)) (by decide) rfl (Or.inl rfl)) ?_
    refine XS.go (XS.lcl (L3 := [some (.ref 1262), some (.int x1), some (.int (x2 + 1))]) (s_inc rfl rfl (Nat.le_of_ble_eq_true rfl)) rfl) ?_
    refine XS.go (s_goto (tgt := 2) rfl rfl) ?_
    exact XR.forget (L2 := [some (.ref 1262), some (.int x1), some (.int (x2 + 1))]) ⟨rfl, ⟨rfl, ⟨rfl, trivial⟩⟩⟩ (hK2 x1 (x2 + 1) _ (by simp only [LY_si, LY_sj]; exact L0) hf)
def b_m_zeros_2 : Nat → Int32 → Int32 → XH → Option (Unit × XH)
  | 0, _, _, _ => none
  | n + 1, x1, x2, h => s_m_zeros_2 (b_m_zeros_2 n) x1 x2 h
theorem kb_m_zeros_2 {l : Launch} {G : XG} {d : Nat} {n : Nat} {x1 : Int32} {x2 : Int32} {h : XH} {r : Unit × XH} (L0 : LY h) (hf : b_m_zeros_2 n x1 x2 h = some r) : XR l G xEX12_zeros d (2, [some (.ref 1262), some (.int x1), some (.int x2)], [], h) (fun C => ∃ v, xRet xEX12_zeros C v ∧ (C.2.2.2 = r.2 ∧ v = none) ∧ LY r.2) := by
  induction n generalizing x1 x2 h with
  | zero => cases hf
  | succ n ih => exact ks_m_zeros_2 (fun x1 x2 h L0 hf => ih (h := h) (x1 := x1) (x2 := x2) L0 hf) L0 hf
def f_m_zeros (a0 : Int32) (h : XH) : Option (Unit × XH) := (b_m_zeros_2 100000 a0 0 h)
set_option maxRecDepth 20000 in
theorem kf_m_zeros {l : Launch} {G : XG} {d : Nat} {a0 : Int32} {h : XH} {r : Unit × XH} (L0 : LY h) (hf : f_m_zeros a0 h = some r) : XC l G xEX12_zeros d [.ref 1262, .int a0] h (fun v h2 => (h2 = r.2 ∧ v = none) ∧ LY r.2) := by
  refine XC.virt xvX12_zeros (Nat.le_of_ble_eq_true rfl) ?_
  unfold f_m_zeros at hf
  refine XR.norm (L3 := [some (.ref 1262), some (.int a0), none]) rfl ?_
  refine XS.go (s_iconst (v := 0) rfl rfl) ?_
  refine XS.go (XS.lcl (L3 := [some (.ref 1262), some (.int a0), some (.int 0)]) (s_istoren rfl rfl (Nat.le_of_ble_eq_true rfl)) rfl) ?_
  exact XR.forget (L2 := [some (.ref 1262), some (.int a0), some (.int 0)]) ⟨rfl, ⟨rfl, ⟨rfl, trivial⟩⟩⟩ (kb_m_zeros_2 L0 hf)
def b_m_aligned_17 (y1 : Int32) (h : XH) : Option (Unit × XH) := (some ((), (hsi h 1262 58 y1)))
set_option maxRecDepth 20000 in
theorem kb_m_aligned_17 {l : Launch} {G : XG} {d : Nat} {y1 : Int32} {h : XH} {r : Unit × XH} (L0 : LY h) (hf : b_m_aligned_17 y1 h = some r) : XR l G xEX12_aligned d (17, [none, none], [(.int y1), (.ref 1262)], h) (fun C => ∃ v, xRet xEX12_aligned C v ∧ (C.2.2.2 = r.2 ∧ v = none) ∧ LY r.2) := by
  unfold b_m_aligned_17 at hf
  refine XS.go (s_puti rfl xf12_385 (LY.lt L0 (by decide)) (LY.k1262 L0) (by decide) rfl (Or.inl rfl)) ?_
  cases hf
  exact XR.retv rfl rfl (fun hret => ⟨_, hret, ⟨rfl, rfl⟩, (by simp only [LY_si, LY_sj]; exact L0)⟩)
def f_m_aligned (a0 : Int32) (h : XH) : Option (Unit × XH) := (if a0 ≤ (hi h 1262 58) then (b_m_aligned_17 (hi h 1262 58) h) else (b_m_aligned_17 a0 h))
set_option maxRecDepth 20000 in
theorem kf_m_aligned {l : Launch} {G : XG} {d : Nat} {a0 : Int32} {h : XH} {r : Unit × XH} (L0 : LY h) (hf : f_m_aligned a0 h = some r) : XC l G xEX12_aligned d [.ref 1262, .int a0] h (fun v h2 => (h2 = r.2 ∧ v = none) ∧ LY r.2) := by
  refine XC.virt xvX12_aligned (Nat.le_of_ble_eq_true rfl) ?_
  unfold f_m_aligned at hf
  refine XR.norm (L3 := [some (.ref 1262), some (.int a0)]) rfl ?_
  refine XS.go (s_aloadn rfl rfl rfl) ?_
  refine XS.go (s_iloadn rfl rfl rfl) ?_
  refine XS.go (s_aloadn rfl rfl rfl) ?_
  refine XS.go (s_getie rfl xf12_385 (LY.lt L0 (by decide)) (LY.k1262 L0) (by decide) rfl rfl) ?_
  refine r_icmp_le (tgt := 13) rfl rfl (fun qc1 => ?_) (fun qc1 => ?_)
  · replace hf := xi_pos hf qc1
    refine XS.go (s_aloadn rfl rfl rfl) ?_
    refine XS.go (s_getie rfl xf12_385 (LY.lt L0 (by decide)) (LY.k1262 L0) (by decide) rfl rfl) ?_
    exact XR.forget (L2 := [none, none]) trivial (kb_m_aligned_17 L0 hf)
  · replace hf := xi_neg hf qc1
    refine XS.go (s_iloadn rfl rfl rfl) ?_
    refine XS.go (s_goto (tgt := 17) rfl rfl) ?_
    exact XR.forget (L2 := [none, none]) trivial (kb_m_aligned_17 L0 hf)
def f_m_thing (a0 : Int32) (a1 : Int32) (a2 : Int32) (h : XH) : Option (Int32 × XH) := (if 0 ≤ (hi h 1262 59) ∧ (hi h 1262 59) < nI 300 then (some ((((hi h 1262 59) + 1) - 1), (hsi (hsi (hsi (hsi (hsi h 1300 (Int32.toNatClampNeg (hi h 1262 59)) a0) 1301 (Int32.toNatClampNeg (hi h 1262 59)) a1) 1302 (Int32.toNatClampNeg (hi h 1262 59)) a2) 1303 (Int32.toNatClampNeg (hi h 1262 59)) (hi h 1262 57)) 1262 59 ((hi h 1262 59) + 1)))) else none)
set_option maxRecDepth 20000 in
theorem kf_m_thing {l : Launch} {G : XG} {d : Nat} {a0 : Int32} {a1 : Int32} {a2 : Int32} {h : XH} {r : Int32 × XH} (L0 : LY h) (hf : f_m_thing a0 a1 a2 h = some r) : XC l G xEX12_thing d [.ref 1262, .int a0, .int a1, .int a2] h (fun v h2 => (h2 = r.2 ∧ v = some (.int r.1)) ∧ LY r.2) := by
  refine XC.virt xvX12_thing (Nat.le_of_ble_eq_true rfl) ?_
  unfold f_m_thing at hf
  refine XR.norm (L3 := [some (.ref 1262), some (.int a0), some (.int a1), some (.int a2)]) rfl ?_
  refine XS.go (s_aloadn rfl rfl rfl) ?_
  refine XS.go (s_getr rfl xf12_122 (LY.lt L0 (by decide)) (LY.k1262 L0) (by decide) rfl (LY.r1262_60 L0)) ?_
  refine XS.go (s_aloadn rfl rfl rfl) ?_
  refine XS.go (s_getie rfl xf12_388 (LY.lt L0 (by decide)) (LY.k1262 L0) (by decide) rfl rfl) ?_
  refine XS.go (s_iloadn rfl rfl rfl) ?_
  replace hf := xi_none hf
  obtain ⟨qk1, hf⟩ := hf
  refine XS.go (s_iast rfl (LY.lt L0 (by decide)) (LY.k1300 L0) (inLit (LY.n1300 L0) qk1.1 qk1.2 (by decide))) ?_
  refine XS.go (s_aloadn rfl rfl rfl) ?_
  refine XS.go (s_getr rfl xf12_125 (LY.lt (by simp only [LY_si, LY_sj]; exact L0) (by decide)) (LY.k1262 (by simp only [LY_si, LY_sj]; exact L0)) (by decide) rfl (LY.r1262_61 (by simp only [LY_si, LY_sj]; exact L0))) ?_
  refine XS.go (s_aloadn rfl rfl rfl) ?_
  refine XS.go (s_getie rfl xf12_388 (LY.lt (by simp only [LY_si, LY_sj]; exact L0) (by decide)) (LY.k1262 (by simp only [LY_si, LY_sj]; exact L0)) (by decide) rfl (hi_hsi_na (by decide))) ?_
  refine XS.go (s_iloadn rfl rfl rfl) ?_
  refine XS.go (s_iast rfl (LY.lt (by simp only [LY_si, LY_sj]; exact L0) (by decide)) (LY.k1301 (by simp only [LY_si, LY_sj]; exact L0)) (inLit (LY.n1301 (by simp only [LY_si, LY_sj]; exact L0)) qk1.1 qk1.2 (by decide))) ?_
  refine XS.go (s_aloadn rfl rfl rfl) ?_
  refine XS.go (s_getr rfl xf12_128 (LY.lt (by simp only [LY_si, LY_sj]; exact L0) (by decide)) (LY.k1262 (by simp only [LY_si, LY_sj]; exact L0)) (by decide) rfl (LY.r1262_62 (by simp only [LY_si, LY_sj]; exact L0))) ?_
  refine XS.go (s_aloadn rfl rfl rfl) ?_
  refine XS.go (s_getie rfl xf12_388 (LY.lt (by simp only [LY_si, LY_sj]; exact L0) (by decide)) (LY.k1262 (by simp only [LY_si, LY_sj]; exact L0)) (by decide) rfl ((hi_hsi_na (by decide)).trans (hi_hsi_na (by decide)))) ?_
  refine XS.go (s_iloadn rfl rfl rfl) ?_
  refine XS.go (s_iast rfl (LY.lt (by simp only [LY_si, LY_sj]; exact L0) (by decide)) (LY.k1302 (by simp only [LY_si, LY_sj]; exact L0)) (inLit (LY.n1302 (by simp only [LY_si, LY_sj]; exact L0)) qk1.1 qk1.2 (by decide))) ?_
  refine XS.go (s_aloadn rfl rfl rfl) ?_
  refine XS.go (s_getr rfl xf12_131 (LY.lt (by simp only [LY_si, LY_sj]; exact L0) (by decide)) (LY.k1262 (by simp only [LY_si, LY_sj]; exact L0)) (by decide) rfl (LY.r1262_63 (by simp only [LY_si, LY_sj]; exact L0))) ?_
  refine XS.go (s_aloadn rfl rfl rfl) ?_
  refine XS.go (s_getie rfl xf12_388 (LY.lt (by simp only [LY_si, LY_sj]; exact L0) (by decide)) (LY.k1262 (by simp only [LY_si, LY_sj]; exact L0)) (by decide) rfl ((hi_hsi_na (by decide)).trans ((hi_hsi_na (by decide)).trans (hi_hsi_na (by decide))))) ?_
  refine XS.go (s_aloadn rfl rfl rfl) ?_
  refine XS.go (s_getie rfl xf12_382 (LY.lt (by simp only [LY_si, LY_sj]; exact L0) (by decide)) (LY.k1262 (by simp only [LY_si, LY_sj]; exact L0)) (by decide) rfl ((hi_hsi_na (by decide)).trans ((hi_hsi_na (by decide)).trans (hi_hsi_na (by decide))))) ?_
  refine XS.go (s_iast rfl (LY.lt (by simp only [LY_si, LY_sj]; exact L0) (by decide)) (LY.k1303 (by simp only [LY_si, LY_sj]; exact L0)) (inLit (LY.n1303 (by simp only [LY_si, LY_sj]; exact L0)) qk1.1 qk1.2 (by decide))) ?_
  refine XS.go (s_aloadn rfl rfl rfl) ?_
  refine XS.go (s_dup rfl rfl) ?_
  refine XS.go (s_getie rfl xf12_388 (LY.lt (by simp only [LY_si, LY_sj]; exact L0) (by decide)) (LY.k1262 (by simp only [LY_si, LY_sj]; exact L0)) (by decide) rfl ((hi_hsi_na (by decide)).trans ((hi_hsi_na (by decide)).trans ((hi_hsi_na (by decide)).trans (hi_hsi_na (by decide)))))) ?_
  refine XS.go (s_iconst (v := 1) rfl rfl) ?_
  refine XS.go (s_iadd rfl) ?_
  refine XS.go (s_puti rfl xf12_388 (LY.lt (by simp only [LY_si, LY_sj]; exact L0) (by decide)) (LY.k1262 (by simp only [LY_si, LY_sj]; exact L0)) (by decide) rfl (Or.inl rfl)) ?_
  refine XS.go (s_aloadn rfl rfl rfl) ?_
  refine XS.go (s_getie rfl xf12_388 (LY.lt (by simp only [LY_si, LY_sj]; exact L0) (by decide)) (LY.k1262 (by simp only [LY_si, LY_sj]; exact L0)) (by decide) rfl hi_hsi_eq) ?_
  refine XS.go (s_iconst (v := 1) rfl rfl) ?_
  refine XS.go (s_isub rfl) ?_
  cases hf
  exact XR.reti rfl rfl (fun hret => ⟨_, hret, ⟨rfl, rfl⟩, (by simp only [LY_si, LY_sj]; exact L0)⟩)
def f_m_reference (a0 : Int32) (h : XH) : Option (Unit × XH) := (if 0 ≤ a0 ∧ a0 < nI 300 then (Option.bind (f_m_ahead (Int32.toInt64 (((hi h 1262 57) + 4) - (hi h 1303 (Int32.toNatClampNeg a0)))) 4 h) fun r2 => (some ((), r2.2))) else none)
set_option maxRecDepth 20000 in
theorem kf_m_reference {l : Launch} {G : XG} {d : Nat} {a0 : Int32} {h : XH} {r : Unit × XH} (L0 : LY h) (hf : f_m_reference a0 h = some r) : XC l G xEX12_reference (d + 1) [.ref 1262, .int a0] h (fun v h2 => (h2 = r.2 ∧ v = none) ∧ LY r.2) := by
  refine XC.virt xvX12_reference (Nat.le_of_ble_eq_true rfl) ?_
  unfold f_m_reference at hf
  refine XR.norm (L3 := [some (.ref 1262), some (.int a0)]) rfl ?_
  refine XS.go (s_aloadn rfl rfl rfl) ?_
  refine XS.go (s_aloadn rfl rfl rfl) ?_
  refine XS.go (s_getie rfl xf12_382 (LY.lt L0 (by decide)) (LY.k1262 L0) (by decide) rfl rfl) ?_
  refine XS.go (s_iconst (v := 4) rfl rfl) ?_
  refine XS.go (s_iadd rfl) ?_
  refine XS.go (s_aloadn rfl rfl rfl) ?_
  refine XS.go (s_getr rfl xf12_131 (LY.lt L0 (by decide)) (LY.k1262 L0) (by decide) rfl (LY.r1262_63 L0)) ?_
  refine XS.go (s_iloadn rfl rfl rfl) ?_
  replace hf := xi_none hf
  obtain ⟨qk1, hf⟩ := hf
  refine XS.go (s_ialde rfl (LY.lt L0 (by decide)) (LY.k1303 L0) (inLit (LY.n1303 L0) qk1.1 qk1.2 (by decide)) rfl) ?_
  refine XS.go (s_isub rfl) ?_
  refine XS.go (s_i2l rfl) ?_
  refine XS.go (s_iconst (v := 4) rfl rfl) ?_
  replace hf := xb_some hf
  obtain ⟨r2, e3, hf⟩ := hf
  refine r_callv rfl xvX12_ahead xm12_396 (kf_m_ahead (d := d) L0 e3) (LY.lt L0 (by decide)) (LY.k1262 L0) (by decide) rfl rfl (dl0 (by decide)) (by decide) (Nat.le_of_ble_eq_true rfl) ?_
  rintro _ _ ⟨⟨rfl, rfl⟩, L4⟩
  cases hf
  exact XR.retv rfl rfl (fun hret => ⟨_, hret, ⟨rfl, rfl⟩, L4⟩)
def s_m_text_92 (K92 : Int32 → Int32 → XH → Option (Int32 × XH)) (x1 : Int32) (x3 : Int32) (h : XH) : Option (Int32 × XH) := (if x3 < 0 then (Option.bind (f_m_ahead (Int32.toInt64 x1) 4 h) fun r2 => (Option.bind (f_m_thing 1 (-1) 0 r2.2) fun r5 => (some (r5.1, r5.2)))) else (if 0 ≤ x3 ∧ x3 < nI 4000 then (Option.bind (f_m_ahead (Int32.toInt64 (hi h 1263 (Int32.toNatClampNeg x3))) 1 h) fun r9 => (K92 x1 (x3 + (-1)) r9.2)) else none))
set_option maxRecDepth 20000 in
theorem ks_m_text_92 {l : Launch} {G : XG} {d : Nat} {K92 : Int32 → Int32 → XH → Option (Int32 × XH)} {x1 : Int32} {x3 : Int32} {h : XH} {r : Int32 × XH} (hK92 : ∀ (x1 : Int32) (x3 : Int32) (h : XH), LY h → K92 x1 x3 h = some r → XR l G xEX12_text (d + 1) (92, [some (.ref 1262), some (.int x1), none, some (.int x3)], [], h) (fun C => ∃ v, xRet xEX12_text C v ∧ (C.2.2.2 = r.2 ∧ v = some (.int r.1)) ∧ LY r.2)) (L0 : LY h) (hf : s_m_text_92 K92 x1 x3 h = some r) : XR l G xEX12_text (d + 1) (92, [some (.ref 1262), some (.int x1), none, some (.int x3)], [], h) (fun C => ∃ v, xRet xEX12_text C v ∧ (C.2.2.2 = r.2 ∧ v = some (.int r.1)) ∧ LY r.2) := by
  unfold s_m_text_92 at hf
  refine XS.go (s_iloadn rfl rfl rfl) ?_
  refine r_if_lt (tgt := 114) rfl rfl (fun qc1 => ?_) (fun qc1 => ?_)
  · replace hf := xi_pos hf qc1
    refine XS.go (s_aloadn rfl rfl rfl) ?_
    refine XS.go (s_iloadn rfl rfl rfl) ?_
    refine XS.go (s_i2l rfl) ?_
    refine XS.go (s_iconst (v := 4) rfl rfl) ?_
    replace hf := xb_some hf
    obtain ⟨r2, e3, hf⟩ := hf
    refine r_callv rfl xvX12_ahead xm12_396 (kf_m_ahead (d := d) L0 e3) (LY.lt L0 (by decide)) (LY.k1262 L0) (by decide) rfl rfl (dl0 (by decide)) (by decide) (Nat.le_of_ble_eq_true rfl) ?_
    rintro _ _ ⟨⟨rfl, rfl⟩, L4⟩
    refine XS.go (s_aloadn rfl rfl rfl) ?_
    refine XS.go (s_iconst (v := 1) rfl rfl) ?_
    refine XS.go (s_iconst (v := (-1)) rfl rfl) ?_
    refine XS.go (s_iconst (v := 0) rfl rfl) ?_
    replace hf := xb_some hf
    obtain ⟨r5, e6, hf⟩ := hf
    refine r_callv rfl xvX12_thing xm12_410 (kf_m_thing (d := d) L4 e6) (LY.lt L4 (by decide)) (LY.k1262 L4) (by decide) rfl rfl (dl0 (by decide)) (by decide) (Nat.le_of_ble_eq_true rfl) ?_
    rintro _ _ ⟨⟨rfl, rfl⟩, L7⟩
    cases hf
    exact XR.reti rfl rfl (fun hret => ⟨_, hret, ⟨rfl, rfl⟩, L7⟩)
  · replace hf := xi_neg hf qc1
    refine XS.go (s_aloadn rfl rfl rfl) ?_
    refine XS.go (s_aloadn rfl rfl rfl) ?_
    refine XS.go (s_getr rfl xf12_9 (LY.lt L0 (by decide)) (LY.k1262 L0) (by decide) rfl (LY.r1262_1 L0)) ?_
    refine XS.go (s_iloadn rfl rfl rfl) ?_
    replace hf := xi_none hf
    obtain ⟨qk8, hf⟩ := hf
    refine XS.go (s_ialde rfl (LY.lt L0 (by decide)) (LY.k1263 L0) (inLit (LY.n1263 L0) qk8.1 qk8.2 (by decide)) rfl) ?_
    refine XS.go (s_i2l rfl) ?_
    refine XS.go (s_iconst (v := 1) rfl rfl) ?_
    replace hf := xb_some hf
    obtain ⟨r9, e10, hf⟩ := hf
    refine r_callv rfl xvX12_ahead xm12_396 (kf_m_ahead (d := d) L0 e10) (LY.lt L0 (by decide)) (LY.k1262 L0) (by decide) rfl rfl (dl0 (by decide)) (by decide) (Nat.le_of_ble_eq_true rfl) ?_
    rintro _ _ ⟨⟨rfl, rfl⟩, L11⟩
    refine XS.go (XS.lcl (L3 := [some (.ref 1262), some (.int x1), none, some (.int (x3 + (-1)))]) (s_dec rfl rfl (Nat.le_of_ble_eq_true rfl)) rfl) ?_
    refine XS.go (s_goto (tgt := 92) rfl rfl) ?_
    exact XR.forget (L2 := [some (.ref 1262), some (.int x1), none, some (.int (x3 + (-1)))]) ⟨rfl, ⟨rfl, ⟨rfl, trivial⟩⟩⟩ (hK92 x1 (x3 + (-1)) _ L11 hf)
def b_m_text_92 : Nat → Int32 → Int32 → XH → Option (Int32 × XH)
  | 0, _, _, _ => none
  | n + 1, x1, x3, h => s_m_text_92 (b_m_text_92 n) x1 x3 h
theorem kb_m_text_92 {l : Launch} {G : XG} {d : Nat} {n : Nat} {x1 : Int32} {x3 : Int32} {h : XH} {r : Int32 × XH} (L0 : LY h) (hf : b_m_text_92 n x1 x3 h = some r) : XR l G xEX12_text (d + 1) (92, [some (.ref 1262), some (.int x1), none, some (.int x3)], [], h) (fun C => ∃ v, xRet xEX12_text C v ∧ (C.2.2.2 = r.2 ∧ v = some (.int r.1)) ∧ LY r.2) := by
  induction n generalizing x1 x3 h with
  | zero => cases hf
  | succ n ih => exact ks_m_text_92 (fun x1 x3 h L0 hf => ih (h := h) (x1 := x1) (x3 := x3) L0 hf) L0 hf
def b_m_text_69 (h : XH) : Option (Int32 × XH) := (some (0, (hsi h 1262 0 2)))
set_option maxRecDepth 20000 in
theorem kb_m_text_69 {l : Launch} {G : XG} {d : Nat} {h : XH} {r : Int32 × XH} (L0 : LY h) (hf : b_m_text_69 h = some r) : XR l G xEX12_text (d + 1) (69, [some (.ref 1262), none, none, none], [], h) (fun C => ∃ v, xRet xEX12_text C v ∧ (C.2.2.2 = r.2 ∧ v = some (.int r.1)) ∧ LY r.2) := by
  unfold b_m_text_69 at hf
  refine XS.go (s_aloadn rfl rfl rfl) ?_
  refine XS.go (s_iconst (v := 2) rfl rfl) ?_
  refine XS.go (s_puti rfl xf12_175 (LY.lt L0 (by decide)) (LY.k1262 L0) (by decide) rfl (Or.inl rfl)) ?_
  refine XS.go (s_iconst (v := 0) rfl rfl) ?_
  cases hf
  exact XR.reti rfl rfl (fun hret => ⟨_, hret, ⟨rfl, rfl⟩, (by simp only [LY_si, LY_sj]; exact L0)⟩)
def f_m_text (h : XH) : Option (Int32 × XH) := (if (hi h 1262 67) = (-1) then (Option.bind (f_m_fill (hi h 1262 57) ((hi h 1262 2) + 1) 4 (hsi (hsi h 1262 0 0) 1262 2 0)) fun r13 => (if (hi r13.2 1262 59) = 300 then (b_m_text_69 r13.2) else (if ((((hi r13.2 1262 57) + r13.1) + (hi h 1262 2)) + 5) ≤ 4000 then (Option.bind (f_m_aligned 4 r13.2) fun r18 => (Option.bind (f_m_zeros (r13.1 + 1) r18.2) fun r21 => (b_m_text_92 100000 (hi h 1262 2) ((hi h 1262 2) - 1) r21.2))) else (b_m_text_69 r13.2)))) else (some (0, (hsi (hsi (hsi h 1262 0 0) 1262 2 0) 1262 0 1))))
set_option maxRecDepth 20000 in
theorem kf_m_text {l : Launch} {G : XG} {d : Nat} {h : XH} {r : Int32 × XH} (L0 : LY h) (hf : f_m_text h = some r) : XC l G xEX12_text (d + 1) [.ref 1262] h (fun v h2 => (h2 = r.2 ∧ v = some (.int r.1)) ∧ LY r.2) := by
  refine XC.virt xvX12_text (Nat.le_of_ble_eq_true rfl) ?_
  unfold f_m_text at hf
  refine XR.norm (L3 := [some (.ref 1262), none, none, none]) rfl ?_
  refine XS.go (s_aloadn rfl rfl rfl) ?_
  refine XS.go (s_iconst (v := 0) rfl rfl) ?_
  refine XS.go (s_puti rfl xf12_175 (LY.lt L0 (by decide)) (LY.k1262 L0) (by decide) rfl (Or.inl rfl)) ?_
  refine XS.go (s_aloadn rfl rfl rfl) ?_
  refine XS.go (s_getie rfl xf12_178 (LY.lt (by simp only [LY_si, LY_sj]; exact L0) (by decide)) (LY.k1262 (by simp only [LY_si, LY_sj]; exact L0)) (by decide) rfl (hi_hsi_nk (by decide))) ?_
  refine XS.go (XS.lcl (L3 := [some (.ref 1262), some (.int (hi h 1262 2)), none, none]) (s_istoren rfl rfl (Nat.le_of_ble_eq_true rfl)) rfl) ?_
  refine XS.go (s_aloadn rfl rfl rfl) ?_
  refine XS.go (s_iconst (v := 0) rfl rfl) ?_
  refine XS.go (s_puti rfl xf12_178 (LY.lt (by simp only [LY_si, LY_sj]; exact L0) (by decide)) (LY.k1262 (by simp only [LY_si, LY_sj]; exact L0)) (by decide) rfl (Or.inl rfl)) ?_
  refine XS.go (s_aloadn rfl rfl rfl) ?_
  refine XS.go (s_getie rfl xf12_140 (LY.lt (by simp only [LY_si, LY_sj]; exact L0) (by decide)) (LY.k1262 (by simp only [LY_si, LY_sj]; exact L0)) (by decide) rfl ((hi_hsi_nk (by decide)).trans (hi_hsi_nk (by decide)))) ?_
  refine XS.go (s_iconst (v := (-1)) rfl rfl) ?_
  refine r_icmp_eq (tgt := 30) rfl rfl (fun qc12 => ?_) (fun qc12 => ?_)
  · replace hf := xi_pos hf qc12
    refine XS.go (s_aloadn rfl rfl rfl) ?_
    refine XS.go (s_aloadn rfl rfl rfl) ?_
    refine XS.go (s_getie rfl xf12_382 (LY.lt (by simp only [LY_si, LY_sj]; exact L0) (by decide)) (LY.k1262 (by simp only [LY_si, LY_sj]; exact L0)) (by decide) rfl ((hi_hsi_nk (by decide)).trans (hi_hsi_nk (by decide)))) ?_
    refine XS.go (s_iloadn rfl rfl rfl) ?_
    refine XS.go (s_iconst (v := 1) rfl rfl) ?_
    refine XS.go (s_iadd rfl) ?_
    refine XS.go (s_iconst (v := 4) rfl rfl) ?_
    replace hf := xb_some hf
    obtain ⟨r13, e14, hf⟩ := hf
    refine r_callv rfl xvX12_fill xm12_400 (kf_m_fill (d := d) (by simp only [LY_si, LY_sj]; exact L0) e14) (LY.lt (by simp only [LY_si, LY_sj]; exact L0) (by decide)) (LY.k1262 (by simp only [LY_si, LY_sj]; exact L0)) (by decide) rfl rfl (dl0 (by decide)) (by decide) (Nat.le_of_ble_eq_true rfl) ?_
    rintro _ _ ⟨⟨rfl, rfl⟩, L15⟩
    refine XS.go (XS.lcl (L3 := [some (.ref 1262), some (.int (hi h 1262 2)), some (.int r13.1), none]) (s_istoren rfl rfl (Nat.le_of_ble_eq_true rfl)) rfl) ?_
    refine XS.go (s_aloadn rfl rfl rfl) ?_
    refine XS.go (s_getie rfl xf12_388 (LY.lt L15 (by decide)) (LY.k1262 L15) (by decide) rfl rfl) ?_
    refine XS.go (s_sipush (v := 300) rfl rfl) ?_
    refine r_icmp_eq (tgt := 69) rfl rfl (fun qc16 => ?_) (fun qc16 => ?_)
    · replace hf := xi_pos hf qc16
      exact XR.forget (L2 := [some (.ref 1262), none, none, none]) ⟨rfl, trivial⟩ (kb_m_text_69 L15 hf)
    · replace hf := xi_neg hf qc16
      refine XS.go (s_aloadn rfl rfl rfl) ?_
      refine XS.go (s_getie rfl xf12_382 (LY.lt L15 (by decide)) (LY.k1262 L15) (by decide) rfl rfl) ?_
      refine XS.go (s_iloadn rfl rfl rfl) ?_
      refine XS.go (s_iadd rfl) ?_
      refine XS.go (s_iloadn rfl rfl rfl) ?_
      refine XS.go (s_iadd rfl) ?_
      refine XS.go (s_iconst (v := 5) rfl rfl) ?_
      refine XS.go (s_iadd rfl) ?_
      refine XS.go (s_sipush (v := 4000) rfl rfl) ?_
      refine r_icmp_le (tgt := 76) rfl rfl (fun qc17 => ?_) (fun qc17 => ?_)
      · replace hf := xi_pos hf qc17
        refine XS.go (s_aloadn rfl rfl rfl) ?_
        refine XS.go (s_iconst (v := 4) rfl rfl) ?_
        replace hf := xb_some hf
        obtain ⟨r18, e19, hf⟩ := hf
        refine r_callv rfl xvX12_aligned xm12_404 (kf_m_aligned (d := d) L15 e19) (LY.lt L15 (by decide)) (LY.k1262 L15) (by decide) rfl rfl (dl0 (by decide)) (by decide) (Nat.le_of_ble_eq_true rfl) ?_
        rintro _ _ ⟨⟨rfl, rfl⟩, L20⟩
        refine XS.go (s_aloadn rfl rfl rfl) ?_
        refine XS.go (s_iloadn rfl rfl rfl) ?_
        refine XS.go (s_iconst (v := 1) rfl rfl) ?_
        refine XS.go (s_iadd rfl) ?_
        replace hf := xb_some hf
        obtain ⟨r21, e22, hf⟩ := hf
        refine r_callv rfl xvX12_zeros xm12_407 (kf_m_zeros (d := d) L20 e22) (LY.lt L20 (by decide)) (LY.k1262 L20) (by decide) rfl rfl (dl0 (by decide)) (by decide) (Nat.le_of_ble_eq_true rfl) ?_
        rintro _ _ ⟨⟨rfl, rfl⟩, L23⟩
        refine XS.go (s_iloadn rfl rfl rfl) ?_
        refine XS.go (s_iconst (v := 1) rfl rfl) ?_
        refine XS.go (s_isub rfl) ?_
        refine XS.go (XS.lcl (L3 := [some (.ref 1262), some (.int (hi h 1262 2)), some (.int r13.1), some (.int ((hi h 1262 2) - 1))]) (s_istoren rfl rfl (Nat.le_of_ble_eq_true rfl)) rfl) ?_
        exact XR.forget (L2 := [some (.ref 1262), some (.int (hi h 1262 2)), none, some (.int ((hi h 1262 2) - 1))]) ⟨rfl, ⟨rfl, ⟨rfl, trivial⟩⟩⟩ (kb_m_text_92 L23 hf)
      · replace hf := xi_neg hf qc17
        exact XR.forget (L2 := [some (.ref 1262), none, none, none]) ⟨rfl, trivial⟩ (kb_m_text_69 L15 hf)
  · replace hf := xi_neg hf qc12
    refine XS.go (s_aloadn rfl rfl rfl) ?_
    refine XS.go (s_iconst (v := 1) rfl rfl) ?_
    refine XS.go (s_puti rfl xf12_175 (LY.lt (by simp only [LY_si, LY_sj]; exact L0) (by decide)) (LY.k1262 (by simp only [LY_si, LY_sj]; exact L0)) (by decide) rfl (Or.inl rfl)) ?_
    refine XS.go (s_iconst (v := 0) rfl rfl) ?_
    cases hf
    exact XR.reti rfl rfl (fun hret => ⟨_, hret, ⟨rfl, rfl⟩, (by simp only [LY_si, LY_sj]; exact L0)⟩)
