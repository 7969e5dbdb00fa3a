/-! Methods as functions of the heap -/
def b_m_one_228 (x1 : Int32) (x2 : Int32) (x3 : Int32) (y1 : Int32) (h : XH) : Option (Int32 × XH) := (Option.bind (f_m_lexeme y1 x1 x3 x2 h) fun r1 => (some (x3, r1.2)))
set_option maxRecDepth 20000 in
theorem kb_m_one_228 {l : Launch} {G : XG} {d : Nat} {x1 : Int32} {x2 : Int32} {x3 : Int32} {y1 : Int32} {h : XH} {r : Int32 × XH} (L0 : LY h) (hf : b_m_one_228 x1 x2 x3 y1 h = some r) : XR l G xEX12_one (d + 5) (228, [none, some (.int x1), some (.int x2), some (.int x3), none], [(.int y1), (.ref 1262)], h) (fun C => ∃ v, xRet xEX12_one C v ∧ (C.2.2.2 = r.2 ∧ v = some (.int r.1)) ∧ LY r.2) := by
  unfold b_m_one_228 at hf
  refine XS.go (s_iloadn rfl rfl rfl) ?_
  refine XS.go (s_iloadn rfl rfl rfl) ?_
  refine XS.go (s_iloadn rfl rfl rfl) ?_
  replace hf := xb_some hf
  obtain ⟨r1, e2, hf⟩ := hf
  refine r_callv rfl xvX12_lexeme xm12_191 (kf_m_lexeme (d := d) L0 e2) (LY.lt L0 (by decide)) (LY.k1262 L0) (by decide) rfl rfl (dl0 (by decide)) (by decide) (Nat.le_of_ble_eq_true rfl) ?_
  rintro _ _ ⟨⟨rfl, rfl⟩, L3⟩
  refine XS.go (s_iloadn rfl rfl rfl) ?_
  cases hf
  exact XR.reti rfl rfl (fun hret => ⟨_, hret, ⟨rfl, rfl⟩, L3⟩)
def b_m_one_215 (x1 : Int32) (x2 : Int32) (x3 : Int32) (y0 : Int32) (h : XH) : Option (Int32 × XH) := (if y0 = 0 then (b_m_one_228 x1 x2 x3 1 h) else (b_m_one_228 x1 x2 x3 4 h))
set_option maxRecDepth 20000 in
theorem kb_m_one_215 {l : Launch} {G : XG} {d : Nat} {x1 : Int32} {x2 : Int32} {x3 : Int32} {y0 : Int32} {h : XH} {r : Int32 × XH} (L0 : LY h) (hf : b_m_one_215 x1 x2 x3 y0 h = some r) : XR l G xEX12_one (d + 5) (215, [some (.ref 1262), some (.int x1), some (.int x2), some (.int x3), none], [(.int y0)], h) (fun C => ∃ v, xRet xEX12_one C v ∧ (C.2.2.2 = r.2 ∧ v = some (.int r.1)) ∧ LY r.2) := by
  unfold b_m_one_215 at hf
  refine XS.go (XS.lcl (L3 := [some (.ref 1262), some (.int x1), some (.int x2), some (.int x3), some (.int y0)]) (s_istore rfl (Nat.le_of_ble_eq_true rfl)) rfl) ?_
  refine XS.go (s_aloadn rfl rfl rfl) ?_
  refine XS.go (s_iload rfl rfl) ?_
  refine r_if_eq (tgt := 227) rfl rfl (fun qc4 => ?_) (fun qc4 => ?_)
  · replace hf := xi_pos hf qc4
    refine XS.go (s_iconst (v := 1) rfl rfl) ?_
    exact XR.forget (L2 := [none, some (.int x1), some (.int x2), some (.int x3), none]) ⟨rfl, ⟨rfl, ⟨rfl, trivial⟩⟩⟩ (kb_m_one_228 L0 hf)
  · replace hf := xi_neg hf qc4
    refine XS.go (s_iconst (v := 4) rfl rfl) ?_
    refine XS.go (s_goto (tgt := 228) rfl rfl) ?_
    exact XR.forget (L2 := [none, some (.int x1), some (.int x2), some (.int x3), none]) ⟨rfl, ⟨rfl, ⟨rfl, trivial⟩⟩⟩ (kb_m_one_228 L0 hf)
def b_m_one_210 (x1 : Int32) (x2 : Int32) (x3 : Int32) (h : XH) : Option (Int32 × XH) := (b_m_one_215 x1 x2 x3 1 h)
set_option maxRecDepth 20000 in
theorem kb_m_one_210 {l : Launch} {G : XG} {d : Nat} {x1 : Int32} {x2 : Int32} {x3 : Int32} {h : XH} {r : Int32 × XH} (L0 : LY h) (hf : b_m_one_210 x1 x2 x3 h = some r) : XR l G xEX12_one (d + 5) (210, [some (.ref 1262), some (.int x1), some (.int x2), some (.int x3), none], [], h) (fun C => ∃ v, xRet xEX12_one C v ∧ (C.2.2.2 = r.2 ∧ v = some (.int r.1)) ∧ LY r.2) := by
  unfold b_m_one_210 at hf
  refine XS.go (s_iconst (v := 1) rfl rfl) ?_
  refine XS.go (s_goto (tgt := 215) rfl rfl) ?_
  exact XR.forget (L2 := [some (.ref 1262), some (.int x1), some (.int x2), some (.int x3), none]) ⟨rfl, ⟨rfl, ⟨rfl, ⟨rfl, trivial⟩⟩⟩⟩ (kb_m_one_215 L0 hf)
def b_m_one_150 (x1 : Int32) (x2 : Int32) (x3 : Int32) (h : XH) : Option (Int32 × XH) := (if x2 = 123 then (b_m_one_210 x1 x2 x3 h) else (if x2 = 125 then (b_m_one_210 x1 x2 x3 h) else (if x2 = 91 then (b_m_one_210 x1 x2 x3 h) else (if x2 = 93 then (b_m_one_210 x1 x2 x3 h) else (if x2 = 40 then (b_m_one_210 x1 x2 x3 h) else (if x2 = 41 then (b_m_one_210 x1 x2 x3 h) else (if x2 = 58 then (b_m_one_210 x1 x2 x3 h) else (if x2 = 59 then (b_m_one_210 x1 x2 x3 h) else (if x2 = 61 then (b_m_one_210 x1 x2 x3 h) else (if ¬ x2 = 44 then (b_m_one_215 x1 x2 x3 0 h) else (b_m_one_210 x1 x2 x3 h)))))))))))
set_option maxRecDepth 20000 in
theorem kb_m_one_150 {l : Launch} {G : XG} {d : Nat} {x1 : Int32} {x2 : Int32} {x3 : Int32} {h : XH} {r : Int32 × XH} (L0 : LY h) (hf : b_m_one_150 x1 x2 x3 h = some r) : XR l G xEX12_one (d + 5) (150, [some (.ref 1262), some (.int x1), some (.int x2), some (.int x3), none], [], h) (fun C => ∃ v, xRet xEX12_one C v ∧ (C.2.2.2 = r.2 ∧ v = some (.int r.1)) ∧ LY r.2) := by
  unfold b_m_one_150 at hf
  refine XS.go (s_iloadn rfl rfl rfl) ?_
  refine XS.go (s_bipush (v := 123) rfl rfl) ?_
  refine r_icmp_eq (tgt := 210) rfl rfl (fun qc5 => ?_) (fun qc5 => ?_)
  · replace hf := xi_pos hf qc5
    exact XR.forget (L2 := [some (.ref 1262), some (.int x1), some (.int x2), some (.int x3), none]) ⟨rfl, ⟨rfl, ⟨rfl, ⟨rfl, trivial⟩⟩⟩⟩ (kb_m_one_210 L0 hf)
  · replace hf := xi_neg hf qc5
    refine XS.go (s_iloadn rfl rfl rfl) ?_
    refine XS.go (s_bipush (v := 125) rfl rfl) ?_
    refine r_icmp_eq (tgt := 210) rfl rfl (fun qc6 => ?_) (fun qc6 => ?_)
    · replace hf := xi_pos hf qc6
      exact XR.forget (L2 := [some (.ref 1262), some (.int x1), some (.int x2), some (.int x3), none]) ⟨rfl, ⟨rfl, ⟨rfl, ⟨rfl, trivial⟩⟩⟩⟩ (kb_m_one_210 L0 hf)
    · replace hf := xi_neg hf qc6
      refine XS.go (s_iloadn rfl rfl rfl) ?_
      refine XS.go (s_bipush (v := 91) rfl rfl) ?_
      refine r_icmp_eq (tgt := 210) rfl rfl (fun qc7 => ?_) (fun qc7 => ?_)
      · replace hf := xi_pos hf qc7
        exact XR.forget (L2 := [some (.ref 1262), some (.int x1), some (.int x2), some (.int x3), none]) ⟨rfl, ⟨rfl, ⟨rfl, ⟨rfl, trivial⟩⟩⟩⟩ (kb_m_one_210 L0 hf)
      · replace hf := xi_neg hf qc7
        refine XS.go (s_iloadn rfl rfl rfl) ?_
        refine XS.go (s_bipush (v := 93) rfl rfl) ?_
        refine r_icmp_eq (tgt := 210) rfl rfl (fun qc8 => ?_) (fun qc8 => ?_)
        · replace hf := xi_pos hf qc8
          exact XR.forget (L2 := [some (.ref 1262), some (.int x1), some (.int x2), some (.int x3), none]) ⟨rfl, ⟨rfl, ⟨rfl, ⟨rfl, trivial⟩⟩⟩⟩ (kb_m_one_210 L0 hf)
        · replace hf := xi_neg hf qc8
          refine XS.go (s_iloadn rfl rfl rfl) ?_
          refine XS.go (s_bipush (v := 40) rfl rfl) ?_
          refine r_icmp_eq (tgt := 210) rfl rfl (fun qc9 => ?_) (fun qc9 => ?_)
          · replace hf := xi_pos hf qc9
            exact XR.forget (L2 := [some (.ref 1262), some (.int x1), some (.int x2), some (.int x3), none]) ⟨rfl, ⟨rfl, ⟨rfl, ⟨rfl, trivial⟩⟩⟩⟩ (kb_m_one_210 L0 hf)
          · replace hf := xi_neg hf qc9
            refine XS.go (s_iloadn rfl rfl rfl) ?_
            refine XS.go (s_bipush (v := 41) rfl rfl) ?_
            refine r_icmp_eq (tgt := 210) rfl rfl (fun qc10 => ?_) (fun qc10 => ?_)
            · replace hf := xi_pos hf qc10
              exact XR.forget (L2 := [some (.ref 1262), some (.int x1), some (.int x2), some (.int x3), none]) ⟨rfl, ⟨rfl, ⟨rfl, ⟨rfl, trivial⟩⟩⟩⟩ (kb_m_one_210 L0 hf)
            · replace hf := xi_neg hf qc10
              refine XS.go (s_iloadn rfl rfl rfl) ?_
              refine XS.go (s_bipush (v := 58) rfl rfl) ?_
              refine r_icmp_eq (tgt := 210) rfl rfl (fun qc11 => ?_) (fun qc11 => ?_)
              · replace hf := xi_pos hf qc11
                exact XR.forget (L2 := [some (.ref 1262), some (.int x1), some (.int x2), some (.int x3), none]) ⟨rfl, ⟨rfl, ⟨rfl, ⟨rfl, trivial⟩⟩⟩⟩ (kb_m_one_210 L0 hf)
              · replace hf := xi_neg hf qc11
                refine XS.go (s_iloadn rfl rfl rfl) ?_
                refine XS.go (s_bipush (v := 59) rfl rfl) ?_
                refine r_icmp_eq (tgt := 210) rfl rfl (fun qc12 => ?_) (fun qc12 => ?_)
                · replace hf := xi_pos hf qc12
                  exact XR.forget (L2 := [some (.ref 1262), some (.int x1), some (.int x2), some (.int x3), none]) ⟨rfl, ⟨rfl, ⟨rfl, ⟨rfl, trivial⟩⟩⟩⟩ (kb_m_one_210 L0 hf)
                · replace hf := xi_neg hf qc12
                  refine XS.go (s_iloadn rfl rfl rfl) ?_
                  refine XS.go (s_bipush (v := 61) rfl rfl) ?_
                  refine r_icmp_eq (tgt := 210) rfl rfl (fun qc13 => ?_) (fun qc13 => ?_)
                  · replace hf := xi_pos hf qc13
                    exact XR.forget (L2 := [some (.ref 1262), some (.int x1), some (.int x2), some (.int x3), none]) ⟨rfl, ⟨rfl, ⟨rfl, ⟨rfl, trivial⟩⟩⟩⟩ (kb_m_one_210 L0 hf)
                  · replace hf := xi_neg hf qc13
                    refine XS.go (s_iloadn rfl rfl rfl) ?_
                    refine XS.go (s_bipush (v := 44) rfl rfl) ?_
                    refine r_icmp_ne (tgt := 214) rfl rfl (fun qc14 => ?_) (fun qc14 => ?_)
                    · replace hf := xi_pos hf qc14
                      refine XS.go (s_iconst (v := 0) rfl rfl) ?_
                      exact XR.forget (L2 := [some (.ref 1262), some (.int x1), some (.int x2), some (.int x3), none]) ⟨rfl, ⟨rfl, ⟨rfl, ⟨rfl, trivial⟩⟩⟩⟩ (kb_m_one_215 L0 hf)
                    · replace hf := xi_neg hf qc14
                      exact XR.forget (L2 := [some (.ref 1262), some (.int x1), some (.int x2), some (.int x3), none]) ⟨rfl, ⟨rfl, ⟨rfl, ⟨rfl, trivial⟩⟩⟩⟩ (kb_m_one_210 L0 hf)
def b_m_one_141 (x1 : Int32) (x3 : Int32) (y1 : Int32) (h : XH) : Option (Int32 × XH) := (Option.bind (f_m_lexeme y1 x1 x3 0 h) fun r15 => (some (x3, r15.2)))
set_option maxRecDepth 20000 in
theorem kb_m_one_141 {l : Launch} {G : XG} {d : Nat} {x1 : Int32} {x3 : Int32} {y1 : Int32} {h : XH} {r : Int32 × XH} (L0 : LY h) (hf : b_m_one_141 x1 x3 y1 h = some r) : XR l G xEX12_one (d + 5) (141, [none, some (.int x1), none, some (.int x3), none], [(.int y1), (.ref 1262)], h) (fun C => ∃ v, xRet xEX12_one C v ∧ (C.2.2.2 = r.2 ∧ v = some (.int r.1)) ∧ LY r.2) := by
  unfold b_m_one_141 at hf
  refine XS.go (s_iloadn rfl rfl rfl) ?_
  refine XS.go (s_iloadn rfl rfl rfl) ?_
  refine XS.go (s_iconst (v := 0) rfl rfl) ?_
  replace hf := xb_some hf
  obtain ⟨r15, e16, hf⟩ := hf
  refine r_callv rfl xvX12_lexeme xm12_191 (kf_m_lexeme (d := d) L0 e16) (LY.lt L0 (by decide)) (LY.k1262 L0) (by decide) rfl rfl (dl0 (by decide)) (by decide) (Nat.le_of_ble_eq_true rfl) ?_
  rintro _ _ ⟨⟨rfl, rfl⟩, L17⟩
  refine XS.go (s_goto (tgt := 234) rfl rfl) ?_
  refine XS.go (s_iloadn rfl rfl rfl) ?_
  cases hf
  exact XR.reti rfl rfl (fun hret => ⟨_, hret, ⟨rfl, rfl⟩, L17⟩)
def b_m_one_130 (x1 : Int32) (x3 : Int32) (y1 : Int32) (y2 : Int32) (h : XH) : Option (Int32 × XH) := (if (y1 - y2) ≤ 18 then (b_m_one_141 x1 x3 3 h) else (b_m_one_141 x1 x3 1 h))
set_option maxRecDepth 20000 in
theorem kb_m_one_130 {l : Launch} {G : XG} {d : Nat} {x1 : Int32} {x3 : Int32} {y1 : Int32} {y2 : Int32} {h : XH} {r : Int32 × XH} (L0 : LY h) (hf : b_m_one_130 x1 x3 y1 y2 h = some r) : XR l G xEX12_one (d + 5) (130, [none, some (.int x1), none, some (.int x3), none], [(.int y2), (.int y1), (.ref 1262)], h) (fun C => ∃ v, xRet xEX12_one C v ∧ (C.2.2.2 = r.2 ∧ v = some (.int r.1)) ∧ LY r.2) := by
  unfold b_m_one_130 at hf
  refine XS.go (s_isub rfl) ?_
  refine XS.go (s_bipush (v := 18) rfl rfl) ?_
  refine r_icmp_le (tgt := 140) rfl rfl (fun qc18 => ?_) (fun qc18 => ?_)
  · replace hf := xi_pos hf qc18
    refine XS.go (s_iconst (v := 3) rfl rfl) ?_
    exact XR.forget (L2 := [none, some (.int x1), none, some (.int x3), none]) ⟨rfl, ⟨rfl, trivial⟩⟩ (kb_m_one_141 L0 hf)
  · replace hf := xi_neg hf qc18
    refine XS.go (s_iconst (v := 1) rfl rfl) ?_
    refine XS.go (s_goto (tgt := 141) rfl rfl) ?_
    exact XR.forget (L2 := [none, some (.int x1), none, some (.int x3), none]) ⟨rfl, ⟨rfl, trivial⟩⟩ (kb_m_one_141 L0 hf)
def s_m_one_98 (K98 : Int32 → Int32 → Int32 → XH → Option (Int32 × XH)) (x1 : Int32) (x2 : Int32) (x3 : Int32) (h : XH) : Option (Int32 × XH) := (Option.bind (f_m_signAt x3 h) fun r19 => (Option.bind (f_m_isDigit r19.1 r19.2) fun r22 => (if r22.1 = 0 then (if ¬ x2 = 45 then (b_m_one_130 x1 x3 (x3 - x1) 0 r22.2) else (b_m_one_130 x1 x3 (x3 - x1) 1 r22.2)) else (K98 x1 x2 (x3 + 1) r22.2))))
set_option maxRecDepth 20000 in
theorem ks_m_one_98 {l : Launch} {G : XG} {d : Nat} {K98 : Int32 → Int32 → Int32 → XH → Option (Int32 × XH)} {x1 : Int32} {x2 : Int32} {x3 : Int32} {h : XH} {r : Int32 × XH} (hK98 : ∀ (x1 : Int32) (x2 : Int32) (x3 : Int32) (h : XH), LY h → K98 x1 x2 x3 h = some r → XR l G xEX12_one (d + 5) (98, [some (.ref 1262), some (.int x1), some (.int x2), some (.int x3), none], [], h) (fun C => ∃ v, xRet xEX12_one C v ∧ (C.2.2.2 = r.2 ∧ v = some (.int r.1)) ∧ LY r.2)) (L0 : LY h) (hf : s_m_one_98 K98 x1 x2 x3 h = some r) : XR l G xEX12_one (d + 5) (98, [some (.ref 1262), some (.int x1), some (.int x2), some (.int x3), none], [], h) (fun C => ∃ v, xRet xEX12_one C v ∧ (C.2.2.2 = r.2 ∧ v = some (.int r.1)) ∧ LY r.2) := by
  unfold s_m_one_98 at hf
  refine XS.go (s_aloadn rfl rfl rfl) ?_
  refine XS.go (s_iloadn rfl rfl rfl) ?_
  replace hf := xb_some hf
  obtain ⟨r19, e20, hf⟩ := hf
  refine r_callv rfl xvX12_signAt xm12_187 (kf_m_signAt (d := d) L0 e20) (LY.lt L0 (by decide)) (LY.k1262 L0) (by decide) rfl rfl (dl0 (by decide)) (by decide) (Nat.le_of_ble_eq_true rfl) ?_
  rintro _ _ ⟨⟨rfl, rfl⟩, L21⟩
  replace hf := xb_some hf
  obtain ⟨r22, e23, hf⟩ := hf
  refine r_calls rfl xsX12_isDigit xm12_202 (kf_m_isDigit (d := d) L21 e23) rfl rfl (dl0 (by decide)) (by decide) (Nat.le_of_ble_eq_true rfl) ?_
  rintro _ _ ⟨⟨rfl, rfl⟩, L24⟩
  refine r_if_eq (tgt := 115) rfl rfl (fun qc25 => ?_) (fun qc25 => ?_)
  · replace hf := xi_pos hf qc25
    refine XS.go (s_aloadn rfl rfl rfl) ?_
    refine XS.go (s_iloadn rfl rfl rfl) ?_
    refine XS.go (s_iloadn rfl rfl rfl) ?_
    refine XS.go (s_isub rfl) ?_
    refine XS.go (s_iloadn rfl rfl rfl) ?_
    refine XS.go (s_bipush (v := 45) rfl rfl) ?_
    refine r_icmp_ne (tgt := 129) rfl rfl (fun qc26 => ?_) (fun qc26 => ?_)
    · replace hf := xi_pos hf qc26
      refine XS.go (s_iconst (v := 0) rfl rfl) ?_
      exact XR.forget (L2 := [none, some (.int x1), none, some (.int x3), none]) ⟨rfl, ⟨rfl, trivial⟩⟩ (kb_m_one_130 L24 hf)
    · replace hf := xi_neg hf qc26
      refine XS.go (s_iconst (v := 1) rfl rfl) ?_
      refine XS.go (s_goto (tgt := 130) rfl rfl) ?_
      exact XR.forget (L2 := [none, some (.int x1), none, some (.int x3), none]) ⟨rfl, ⟨rfl, trivial⟩⟩ (kb_m_one_130 L24 hf)
  · replace hf := xi_neg hf qc25
    refine XS.go (XS.lcl (L3 := [some (.ref 1262), some (.int x1), some (.int x2), some (.int (x3 + 1)), none]) (s_inc rfl rfl (Nat.le_of_ble_eq_true rfl)) rfl) ?_
    refine XS.go (s_goto (tgt := 98) rfl rfl) ?_
    exact XR.forget (L2 := [some (.ref 1262), some (.int x1), some (.int x2), some (.int (x3 + 1)), none]) ⟨rfl, ⟨rfl, ⟨rfl, ⟨rfl, trivial⟩⟩⟩⟩ (hK98 x1 x2 (x3 + 1) _ L24 hf)
def b_m_one_98 : Nat → Int32 → Int32 → Int32 → XH → Option (Int32 × XH)
  | 0, _, _, _, _ => none
  | n + 1, x1, x2, x3, h => s_m_one_98 (b_m_one_98 n) x1 x2 x3 h
theorem kb_m_one_98 {l : Launch} {G : XG} {d : Nat} {n : Nat} {x1 : Int32} {x2 : Int32} {x3 : Int32} {h : XH} {r : Int32 × XH} (L0 : LY h) (hf : b_m_one_98 n x1 x2 x3 h = some r) : XR l G xEX12_one (d + 5) (98, [some (.ref 1262), some (.int x1), some (.int x2), some (.int x3), none], [], h) (fun C => ∃ v, xRet xEX12_one C v ∧ (C.2.2.2 = r.2 ∧ v = some (.int r.1)) ∧ LY r.2) := by
  induction n generalizing x1 x2 x3 h with
  | zero => cases hf
  | succ n ih => exact ks_m_one_98 (fun x1 x2 x3 h L0 hf => ih (h := h) (x1 := x1) (x2 := x2) (x3 := x3) L0 hf) L0 hf
def b_m_one_60 (x1 : Int32) (x3 : Int32) (y1 : Int32) (h : XH) : Option (Int32 × XH) := (Option.bind (f_m_keyword x1 x3 h) fun r27 => (Option.bind (f_m_lexeme y1 x1 x3 r27.1 r27.2) fun r30 => (some (x3, r30.2))))
set_option maxRecDepth 20000 in
theorem kb_m_one_60 {l : Launch} {G : XG} {d : Nat} {x1 : Int32} {x3 : Int32} {y1 : Int32} {h : XH} {r : Int32 × XH} (L0 : LY h) (hf : b_m_one_60 x1 x3 y1 h = some r) : XR l G xEX12_one (d + 5) (60, [some (.ref 1262), some (.int x1), none, some (.int x3), none], [(.int y1), (.ref 1262)], h) (fun C => ∃ v, xRet xEX12_one C v ∧ (C.2.2.2 = r.2 ∧ v = some (.int r.1)) ∧ LY r.2) := by
  unfold b_m_one_60 at hf
  refine XS.go (s_iloadn rfl rfl rfl) ?_
  refine XS.go (s_iloadn rfl rfl rfl) ?_
  refine XS.go (s_aloadn rfl rfl rfl) ?_
  refine XS.go (s_iloadn rfl rfl rfl) ?_
  refine XS.go (s_iloadn rfl rfl rfl) ?_
  replace hf := xb_some hf
  obtain ⟨r27, e28, hf⟩ := hf
  refine r_callv rfl xvX12_keyword xm12_205 (kf_m_keyword (d := d) L0 e28) (LY.lt L0 (by decide)) (LY.k1262 L0) (by decide) rfl rfl (dl (by decide)) (by decide) (Nat.le_of_ble_eq_true rfl) ?_
  rintro _ _ ⟨⟨rfl, rfl⟩, L29⟩
  replace hf := xb_some hf
  obtain ⟨r30, e31, hf⟩ := hf
  refine r_callv rfl xvX12_lexeme xm12_191 (kf_m_lexeme (d := d) L29 e31) (LY.lt L29 (by decide)) (LY.k1262 L29) (by decide) rfl rfl (dl0 (by decide)) (by decide) (Nat.le_of_ble_eq_true rfl) ?_
  rintro _ _ ⟨⟨rfl, rfl⟩, L32⟩
  refine XS.go (s_goto (tgt := 234) rfl rfl) ?_
  refine XS.go (s_iloadn rfl rfl rfl) ?_
  cases hf
  exact XR.reti rfl rfl (fun hret => ⟨_, hret, ⟨rfl, rfl⟩, L32⟩)
def b_m_one_40 (K18 : Int32 → Int32 → XH → Option (Int32 × XH)) (x1 : Int32) (x3 : Int32) (h : XH) : Option (Int32 × XH) := (K18 x1 (x3 + 1) h)
set_option maxRecDepth 20000 in
theorem kb_m_one_40 {l : Launch} {G : XG} {d : Nat} {K18 : Int32 → Int32 → XH → Option (Int32 × XH)} {x1 : Int32} {x3 : Int32} {h : XH} {r : Int32 × XH} (hK18 : ∀ (x1 : Int32) (x3 : Int32) (h : XH), LY h → K18 x1 x3 h = some r → XR l G xEX12_one (d + 5) (18, [some (.ref 1262), some (.int x1), none, some (.int x3), none], [], h) (fun C => ∃ v, xRet xEX12_one C v ∧ (C.2.2.2 = r.2 ∧ v = some (.int r.1)) ∧ LY r.2)) (L0 : LY h) (hf : b_m_one_40 K18 x1 x3 h = some r) : XR l G xEX12_one (d + 5) (40, [some (.ref 1262), some (.int x1), none, some (.int x3), none], [], h) (fun C => ∃ v, xRet xEX12_one C v ∧ (C.2.2.2 = r.2 ∧ v = some (.int r.1)) ∧ LY r.2) := by
  unfold b_m_one_40 at hf
  refine XS.go (XS.lcl (L3 := [some (.ref 1262), some (.int x1), none, some (.int (x3 + 1)), none]) (s_inc rfl rfl (Nat.le_of_ble_eq_true rfl)) rfl) ?_
  refine XS.go (s_goto (tgt := 18) rfl rfl) ?_
  exact XR.forget (L2 := [some (.ref 1262), some (.int x1), none, some (.int (x3 + 1)), none]) ⟨rfl, ⟨rfl, ⟨rfl, trivial⟩⟩⟩ (hK18 x1 (x3 + 1) _ L0 hf)
def s_m_one_18 (K18 : Int32 → Int32 → XH → Option (Int32 × XH)) (x1 : Int32) (x3 : Int32) (h : XH) : Option (Int32 × XH) := (Option.bind (f_m_signAt x3 h) fun r33 => (Option.bind (f_m_isLetter r33.1 r33.2) fun r36 => (if ¬ r36.1 = 0 then (b_m_one_40 K18 x1 x3 r36.2) else (Option.bind (f_m_signAt x3 r36.2) fun r40 => (Option.bind (f_m_isDigit r40.1 r40.2) fun r43 => (if r43.1 = 0 then (if (x3 - x1) ≤ 16 then (b_m_one_60 x1 x3 2 r43.2) else (b_m_one_60 x1 x3 1 r43.2)) else (b_m_one_40 K18 x1 x3 r43.2)))))))
set_option maxRecDepth 20000 in
theorem ks_m_one_18 {l : Launch} {G : XG} {d : Nat} {K18 : Int32 → Int32 → XH → Option (Int32 × XH)} {x1 : Int32} {x3 : Int32} {h : XH} {r : Int32 × XH} (hK18 : ∀ (x1 : Int32) (x3 : Int32) (h : XH), LY h → K18 x1 x3 h = some r → XR l G xEX12_one (d + 5) (18, [some (.ref 1262), some (.int x1), none, some (.int x3), none], [], h) (fun C => ∃ v, xRet xEX12_one C v ∧ (C.2.2.2 = r.2 ∧ v = some (.int r.1)) ∧ LY r.2)) (L0 : LY h) (hf : s_m_one_18 K18 x1 x3 h = some r) : XR l G xEX12_one (d + 5) (18, [some (.ref 1262), some (.int x1), none, some (.int x3), none], [], h) (fun C => ∃ v, xRet xEX12_one C v ∧ (C.2.2.2 = r.2 ∧ v = some (.int r.1)) ∧ LY r.2) := by
  unfold s_m_one_18 at hf
  refine XS.go (s_aloadn rfl rfl rfl) ?_
  refine XS.go (s_iloadn rfl rfl rfl) ?_
  replace hf := xb_some hf
  obtain ⟨r33, e34, hf⟩ := hf
  refine r_callv rfl xvX12_signAt xm12_187 (kf_m_signAt (d := d) L0 e34) (LY.lt L0 (by decide)) (LY.k1262 L0) (by decide) rfl rfl (dl0 (by decide)) (by decide) (Nat.le_of_ble_eq_true rfl) ?_
  rintro _ _ ⟨⟨rfl, rfl⟩, L35⟩
  replace hf := xb_some hf
  obtain ⟨r36, e37, hf⟩ := hf
  refine r_calls rfl xsX12_isLetter xm12_198 (kf_m_isLetter (d := d) L35 e37) rfl rfl (dl0 (by decide)) (by decide) (Nat.le_of_ble_eq_true rfl) ?_
  rintro _ _ ⟨⟨rfl, rfl⟩, L38⟩
  refine r_if_ne (tgt := 40) rfl rfl (fun qc39 => ?_) (fun qc39 => ?_)
  · replace hf := xi_pos hf qc39
    exact XR.forget (L2 := [some (.ref 1262), some (.int x1), none, some (.int x3), none]) ⟨rfl, ⟨rfl, ⟨rfl, trivial⟩⟩⟩ (kb_m_one_40 hK18 L38 hf)
  · replace hf := xi_neg hf qc39
    refine XS.go (s_aloadn rfl rfl rfl) ?_
    refine XS.go (s_iloadn rfl rfl rfl) ?_
    replace hf := xb_some hf
    obtain ⟨r40, e41, hf⟩ := hf
    refine r_callv rfl xvX12_signAt xm12_187 (kf_m_signAt (d := d) L38 e41) (LY.lt L38 (by decide)) (LY.k1262 L38) (by decide) rfl rfl (dl0 (by decide)) (by decide) (Nat.le_of_ble_eq_true rfl) ?_
    rintro _ _ ⟨⟨rfl, rfl⟩, L42⟩
    replace hf := xb_some hf
    obtain ⟨r43, e44, hf⟩ := hf
    refine r_calls rfl xsX12_isDigit xm12_202 (kf_m_isDigit (d := d) L42 e44) rfl rfl (dl0 (by decide)) (by decide) (Nat.le_of_ble_eq_true rfl) ?_
    rintro _ _ ⟨⟨rfl, rfl⟩, L45⟩
    refine r_if_eq (tgt := 46) rfl rfl (fun qc46 => ?_) (fun qc46 => ?_)
    · replace hf := xi_pos hf qc46
      refine XS.go (s_aloadn rfl rfl rfl) ?_
      refine XS.go (s_iloadn rfl rfl rfl) ?_
      refine XS.go (s_iloadn rfl rfl rfl) ?_
      refine XS.go (s_isub rfl) ?_
      refine XS.go (s_bipush (v := 16) rfl rfl) ?_
      refine r_icmp_le (tgt := 59) rfl rfl (fun qc47 => ?_) (fun qc47 => ?_)
      · replace hf := xi_pos hf qc47
        refine XS.go (s_iconst (v := 2) rfl rfl) ?_
        exact XR.forget (L2 := [some (.ref 1262), some (.int x1), none, some (.int x3), none]) ⟨rfl, ⟨rfl, ⟨rfl, trivial⟩⟩⟩ (kb_m_one_60 L45 hf)
      · replace hf := xi_neg hf qc47
        refine XS.go (s_iconst (v := 1) rfl rfl) ?_
        refine XS.go (s_goto (tgt := 60) rfl rfl) ?_
        exact XR.forget (L2 := [some (.ref 1262), some (.int x1), none, some (.int x3), none]) ⟨rfl, ⟨rfl, ⟨rfl, trivial⟩⟩⟩ (kb_m_one_60 L45 hf)
    · replace hf := xi_neg hf qc46
      exact XR.forget (L2 := [some (.ref 1262), some (.int x1), none, some (.int x3), none]) ⟨rfl, ⟨rfl, ⟨rfl, trivial⟩⟩⟩ (kb_m_one_40 hK18 L45 hf)
def b_m_one_18 : Nat → Int32 → Int32 → XH → Option (Int32 × XH)
  | 0, _, _, _ => none
  | n + 1, x1, x3, h => s_m_one_18 (b_m_one_18 n) x1 x3 h
theorem kb_m_one_18 {l : Launch} {G : XG} {d : Nat} {n : Nat} {x1 : Int32} {x3 : Int32} {h : XH} {r : Int32 × XH} (L0 : LY h) (hf : b_m_one_18 n x1 x3 h = some r) : XR l G xEX12_one (d + 5) (18, [some (.ref 1262), some (.int x1), none, some (.int x3), none], [], h) (fun C => ∃ v, xRet xEX12_one C v ∧ (C.2.2.2 = r.2 ∧ v = some (.int r.1)) ∧ LY r.2) := by
  induction n generalizing x1 x3 h with
  | zero => cases hf
  | succ n ih => exact ks_m_one_18 (fun x1 x3 h L0 hf => ih (h := h) (x1 := x1) (x3 := x3) L0 hf) L0 hf
def f_m_one (a0 : Int32) (h : XH) : Option (Int32 × XH) := (if 0 ≤ a0 ∧ a0 < nI 4000 then (Option.bind (f_m_isLetter (hi h 1264 (Int32.toNatClampNeg a0)) h) fun r49 => (if r49.1 = 0 then (Option.bind (f_m_isDigit (hi h 1264 (Int32.toNatClampNeg a0)) r49.2) fun r53 => (if ¬ r53.1 = 0 then (b_m_one_98 100000 a0 (hi h 1264 (Int32.toNatClampNeg a0)) (a0 + 1) r53.2) else (if ¬ (hi h 1264 (Int32.toNatClampNeg a0)) = 45 then (b_m_one_150 a0 (hi h 1264 (Int32.toNatClampNeg a0)) (a0 + 1) r53.2) else (Option.bind (f_m_signAt (a0 + 1) r53.2) fun r58 => (Option.bind (f_m_isDigit r58.1 r58.2) fun r61 => (if r61.1 = 0 then (b_m_one_150 a0 (hi h 1264 (Int32.toNatClampNeg a0)) (a0 + 1) r61.2) else (b_m_one_98 100000 a0 (hi h 1264 (Int32.toNatClampNeg a0)) (a0 + 1) r61.2))))))) else (b_m_one_18 100000 a0 (a0 + 1) r49.2))) else none)
set_option maxRecDepth 20000 in
theorem kf_m_one {l : Launch} {G : XG} {d : Nat} {a0 : Int32} {h : XH} {r : Int32 × XH} (L0 : LY h) (hf : f_m_one a0 h = some r) : XC l G xEX12_one (d + 5) [.ref 1262, .int a0] h (fun v h2 => (h2 = r.2 ∧ v = some (.int r.1)) ∧ LY r.2) := by
  refine XC.virt xvX12_one (Nat.le_of_ble_eq_true rfl) ?_
  unfold f_m_one at hf
  refine XR.norm (L3 := [some (.ref 1262), some (.int a0), none, none, none]) rfl ?_
  refine XS.go (s_aloadn rfl rfl rfl) ?_
  refine XS.go (s_getr rfl xf12_13 (LY.lt L0 (by decide)) (LY.k1262 L0) (by decide) rfl (LY.r1262_3 L0)) ?_
  refine XS.go (s_iloadn rfl rfl rfl) ?_
  replace hf := xi_none hf
  obtain ⟨qk48, hf⟩ := hf
  refine XS.go (s_ialde rfl (LY.lt L0 (by decide)) (LY.k1264 L0) (inLit (LY.n1264 L0) qk48.1 qk48.2 (by decide)) rfl) ?_
  refine XS.go (XS.lcl (L3 := [some (.ref 1262), some (.int a0), some (.int (hi h 1264 (Int32.toNatClampNeg a0))), none, none]) (s_istoren rfl rfl (Nat.le_of_ble_eq_true rfl)) rfl) ?_
  refine XS.go (s_iloadn rfl rfl rfl) ?_
  refine XS.go (s_iconst (v := 1) rfl rfl) ?_
  refine XS.go (s_iadd rfl) ?_
  refine XS.go (XS.lcl (L3 := [some (.ref 1262), some (.int a0), some (.int (hi h 1264 (Int32.toNatClampNeg a0))), some (.int (a0 + 1)), none]) (s_istoren rfl rfl (Nat.le_of_ble_eq_true rfl)) rfl) ?_
  refine XS.go (s_iloadn rfl rfl rfl) ?_
  replace hf := xb_some hf
  obtain ⟨r49, e50, hf⟩ := hf
  refine r_calls rfl xsX12_isLetter xm12_198 (kf_m_isLetter (d := d) L0 e50) rfl rfl (dl0 (by decide)) (by decide) (Nat.le_of_ble_eq_true rfl) ?_
  rintro _ _ ⟨⟨rfl, rfl⟩, L51⟩
  refine r_if_eq (tgt := 74) rfl rfl (fun qc52 => ?_) (fun qc52 => ?_)
  · replace hf := xi_pos hf qc52
    refine XS.go (s_iloadn rfl rfl rfl) ?_
    replace hf := xb_some hf
    obtain ⟨r53, e54, hf⟩ := hf
    refine r_calls rfl xsX12_isDigit xm12_202 (kf_m_isDigit (d := d) L51 e54) rfl rfl (dl0 (by decide)) (by decide) (Nat.le_of_ble_eq_true rfl) ?_
    rintro _ _ ⟨⟨rfl, rfl⟩, L55⟩
    refine r_if_ne (tgt := 98) rfl rfl (fun qc56 => ?_) (fun qc56 => ?_)
    · replace hf := xi_pos hf qc56
      exact XR.forget (L2 := [some (.ref 1262), some (.int a0), some (.int (hi h 1264 (Int32.toNatClampNeg a0))), some (.int (a0 + 1)), none]) ⟨rfl, ⟨rfl, ⟨rfl, ⟨rfl, trivial⟩⟩⟩⟩ (kb_m_one_98 L55 hf)
    · replace hf := xi_neg hf qc56
      refine XS.go (s_iloadn rfl rfl rfl) ?_
      refine XS.go (s_bipush (v := 45) rfl rfl) ?_
      refine r_icmp_ne (tgt := 150) rfl rfl (fun qc57 => ?_) (fun qc57 => ?_)
      · replace hf := xi_pos hf qc57
        exact XR.forget (L2 := [some (.ref 1262), some (.int a0), some (.int (hi h 1264 (Int32.toNatClampNeg a0))), some (.int (a0 + 1)), none]) ⟨rfl, ⟨rfl, ⟨rfl, ⟨rfl, trivial⟩⟩⟩⟩ (kb_m_one_150 L55 hf)
      · replace hf := xi_neg hf qc57
        refine XS.go (s_aloadn rfl rfl rfl) ?_
        refine XS.go (s_iloadn rfl rfl rfl) ?_
        replace hf := xb_some hf
        obtain ⟨r58, e59, hf⟩ := hf
        refine r_callv rfl xvX12_signAt xm12_187 (kf_m_signAt (d := d) L55 e59) (LY.lt L55 (by decide)) (LY.k1262 L55) (by decide) rfl rfl (dl0 (by decide)) (by decide) (Nat.le_of_ble_eq_true rfl) ?_
        rintro _ _ ⟨⟨rfl, rfl⟩, L60⟩
        replace hf := xb_some hf
        obtain ⟨r61, e62, hf⟩ := hf
        refine r_calls rfl xsX12_isDigit xm12_202 (kf_m_isDigit (d := d) L60 e62) rfl rfl (dl0 (by decide)) (by decide) (Nat.le_of_ble_eq_true rfl) ?_
        rintro _ _ ⟨⟨rfl, rfl⟩, L63⟩
        refine r_if_eq (tgt := 150) rfl rfl (fun qc64 => ?_) (fun qc64 => ?_)
        · replace hf := xi_pos hf qc64
          exact XR.forget (L2 := [some (.ref 1262), some (.int a0), some (.int (hi h 1264 (Int32.toNatClampNeg a0))), some (.int (a0 + 1)), none]) ⟨rfl, ⟨rfl, ⟨rfl, ⟨rfl, trivial⟩⟩⟩⟩ (kb_m_one_150 L63 hf)
        · replace hf := xi_neg hf qc64
          exact XR.forget (L2 := [some (.ref 1262), some (.int a0), some (.int (hi h 1264 (Int32.toNatClampNeg a0))), some (.int (a0 + 1)), none]) ⟨rfl, ⟨rfl, ⟨rfl, ⟨rfl, trivial⟩⟩⟩⟩ (kb_m_one_98 L63 hf)
  · replace hf := xi_neg hf qc52
    exact XR.forget (L2 := [some (.ref 1262), some (.int a0), none, some (.int (a0 + 1)), none]) ⟨rfl, ⟨rfl, ⟨rfl, trivial⟩⟩⟩ (kb_m_one_18 L51 hf)
def b_m_cut_159 (K9 : Int32 → Int32 → XH → Option (Unit × XH)) (x1 : Int32) (y0 : Int32) (h : XH) : Option (Unit × XH) := (K9 x1 y0 h)
set_option maxRecDepth 20000 in
theorem kb_m_cut_159 {l : Launch} {G : XG} {d : Nat} {K9 : Int32 → Int32 → XH → Option (Unit × XH)} {x1 : Int32} {y0 : Int32} {h : XH} {r : Unit × XH} (hK9 : ∀ (x1 : Int32) (x2 : Int32) (h : XH), LY h → K9 x1 x2 h = some r → XR l G xEX12_cut (d + 6) (9, [some (.ref 1262), some (.int x1), some (.int x2)], [], h) (fun C => ∃ v, xRet xEX12_cut C v ∧ (C.2.2.2 = r.2 ∧ v = none) ∧ LY r.2)) (L0 : LY h) (hf : b_m_cut_159 K9 x1 y0 h = some r) : XR l G xEX12_cut (d + 6) (159, [some (.ref 1262), some (.int x1), none], [(.int y0)], h) (fun C => ∃ v, xRet xEX12_cut C v ∧ (C.2.2.2 = r.2 ∧ v = none) ∧ LY r.2) := by
  unfold b_m_cut_159 at hf
  refine XS.go (XS.lcl (L3 := [some (.ref 1262), some (.int x1), some (.int y0)]) (s_istoren rfl rfl (Nat.le_of_ble_eq_true rfl)) rfl) ?_
  refine XS.go (s_goto (tgt := 9) rfl rfl) ?_
  exact XR.forget (L2 := [some (.ref 1262), some (.int x1), some (.int y0)]) ⟨rfl, ⟨rfl, ⟨rfl, trivial⟩⟩⟩ (hK9 x1 y0 _ L0 hf)
def b_m_cut_106 (K9 : Int32 → Int32 → XH → Option (Unit × XH)) (x1 : Int32) (h : XH) : Option (Unit × XH) := (if x1 < (hi h 1262 5) then (Option.bind (f_m_one x1 h) fun r2 => (if 0 ≤ ((hi r2.2 1262 12) - 1) ∧ ((hi r2.2 1262 12) - 1) < nI 4001 then (if (hi r2.2 1266 (Int32.toNatClampNeg ((hi r2.2 1262 12) - 1))) = 1 then (b_m_cut_159 K9 r2.1 0 r2.2) else (b_m_cut_159 K9 r2.1 1 r2.2)) else none)) else (Option.bind (f_m_lexeme 0 (hi h 1262 5) (hi h 1262 5) 0 h) fun r7 => (K9 x1 0 r7.2)))
set_option maxRecDepth 20000 in
theorem kb_m_cut_106 {l : Launch} {G : XG} {d : Nat} {K9 : Int32 → Int32 → XH → Option (Unit × XH)} {x1 : Int32} {h : XH} {r : Unit × XH} (hK9 : ∀ (x1 : Int32) (x2 : Int32) (h : XH), LY h → K9 x1 x2 h = some r → XR l G xEX12_cut (d + 6) (9, [some (.ref 1262), some (.int x1), some (.int x2)], [], h) (fun C => ∃ v, xRet xEX12_cut C v ∧ (C.2.2.2 = r.2 ∧ v = none) ∧ LY r.2)) (L0 : LY h) (hf : b_m_cut_106 K9 x1 h = some r) : XR l G xEX12_cut (d + 6) (106, [some (.ref 1262), some (.int x1), none], [], h) (fun C => ∃ v, xRet xEX12_cut C v ∧ (C.2.2.2 = r.2 ∧ v = none) ∧ LY r.2) := by
  unfold b_m_cut_106 at hf
  refine XS.go (s_iloadn rfl rfl rfl) ?_
  refine XS.go (s_aloadn rfl rfl rfl) ?_
  refine XS.go (s_getie rfl xf12_181 (LY.lt L0 (by decide)) (LY.k1262 L0) (by decide) rfl rfl) ?_
  refine r_icmp_lt (tgt := 133) rfl rfl (fun qc1 => ?_) (fun qc1 => ?_)
  · replace hf := xi_pos hf qc1
    refine XS.go (s_aloadn rfl rfl rfl) ?_
    refine XS.go (s_iloadn rfl rfl rfl) ?_
    replace hf := xb_some hf
    obtain ⟨r2, e3, hf⟩ := hf
    refine r_callv rfl xvX12_one xm12_195 (kf_m_one (d := d) L0 e3) (LY.lt L0 (by decide)) (LY.k1262 L0) (by decide) rfl rfl (dl (by decide)) (by decide) (Nat.le_of_ble_eq_true rfl) ?_
    rintro _ _ ⟨⟨rfl, rfl⟩, L4⟩
    refine XS.go (XS.lcl (L3 := [some (.ref 1262), some (.int r2.1), none]) (s_istoren rfl rfl (Nat.le_of_ble_eq_true rfl)) rfl) ?_
    refine XS.go (s_aloadn rfl rfl rfl) ?_
    refine XS.go (s_getr rfl xf12_19 (LY.lt L4 (by decide)) (LY.k1262 L4) (by decide) rfl (LY.r1262_8 L4)) ?_
    refine XS.go (s_aloadn rfl rfl rfl) ?_
    refine XS.go (s_getie rfl xf12_184 (LY.lt L4 (by decide)) (LY.k1262 L4) (by decide) rfl rfl) ?_
    refine XS.go (s_iconst (v := 1) rfl rfl) ?_
    refine XS.go (s_isub rfl) ?_
    replace hf := xi_none hf
    obtain ⟨qk5, hf⟩ := hf
    refine XS.go (s_ialde rfl (LY.lt L4 (by decide)) (LY.k1266 L4) (inLit (LY.n1266 L4) qk5.1 qk5.2 (by decide)) rfl) ?_
    refine XS.go (s_iconst (v := 1) rfl rfl) ?_
    refine r_icmp_eq (tgt := 158) rfl rfl (fun qc6 => ?_) (fun qc6 => ?_)
    · replace hf := xi_pos hf qc6
      refine XS.go (s_iconst (v := 0) rfl rfl) ?_
      exact XR.forget (L2 := [some (.ref 1262), some (.int r2.1), none]) ⟨rfl, ⟨rfl, trivial⟩⟩ (kb_m_cut_159 hK9 L4 hf)
    · replace hf := xi_neg hf qc6
      refine XS.go (s_iconst (v := 1) rfl rfl) ?_
      refine XS.go (s_goto (tgt := 159) rfl rfl) ?_
      exact XR.forget (L2 := [some (.ref 1262), some (.int r2.1), none]) ⟨rfl, ⟨rfl, trivial⟩⟩ (kb_m_cut_159 hK9 L4 hf)
  · replace hf := xi_neg hf qc1
    refine XS.go (s_aloadn rfl rfl rfl) ?_
    refine XS.go (s_iconst (v := 0) rfl rfl) ?_
    refine XS.go (s_aloadn rfl rfl rfl) ?_
    refine XS.go (s_getie rfl xf12_181 (LY.lt L0 (by decide)) (LY.k1262 L0) (by decide) rfl rfl) ?_
    refine XS.go (s_aloadn rfl rfl rfl) ?_
    refine XS.go (s_getie rfl xf12_181 (LY.lt L0 (by decide)) (LY.k1262 L0) (by decide) rfl rfl) ?_
    refine XS.go (s_iconst (v := 0) rfl rfl) ?_
    replace hf := xb_some hf
    obtain ⟨r7, e8, hf⟩ := hf
    refine r_callv rfl xvX12_lexeme xm12_191 (kf_m_lexeme (d := d) L0 e8) (LY.lt L0 (by decide)) (LY.k1262 L0) (by decide) rfl rfl (dl0 (by decide)) (by decide) (Nat.le_of_ble_eq_true rfl) ?_
    rintro _ _ ⟨⟨rfl, rfl⟩, L9⟩
    refine XS.go (s_iconst (v := 0) rfl rfl) ?_
    refine XS.go (XS.lcl (L3 := [some (.ref 1262), some (.int x1), some (.int 0)]) (s_istoren rfl rfl (Nat.le_of_ble_eq_true rfl)) rfl) ?_
    refine XS.go (s_goto (tgt := 9) rfl rfl) ?_
    exact XR.forget (L2 := [some (.ref 1262), some (.int x1), some (.int 0)]) ⟨rfl, ⟨rfl, ⟨rfl, trivial⟩⟩⟩ (hK9 x1 0 _ L9 hf)
def s_m_cut_81 (K9 : Int32 → Int32 → XH → Option (Unit × XH)) (K81 : Int32 → Int32 → XH → Option (Unit × XH)) (x1 : Int32) (x2 : Int32) (h : XH) : Option (Unit × XH) := (if (hi h 1262 5) ≤ x1 then (K9 x1 x2 h) else (if 0 ≤ x1 ∧ x1 < nI 4000 then (if (hi h 1264 (Int32.toNatClampNeg x1)) = 10 then (K9 x1 x2 h) else (K81 (x1 + 1) x2 h)) else none))
set_option maxRecDepth 20000 in
theorem ks_m_cut_81 {l : Launch} {G : XG} {d : Nat} {K9 : Int32 → Int32 → XH → Option (Unit × XH)} {K81 : Int32 → Int32 → XH → Option (Unit × XH)} {x1 : Int32} {x2 : Int32} {h : XH} {r : Unit × XH} (hK9 : ∀ (x1 : Int32) (x2 : Int32) (h : XH), LY h → K9 x1 x2 h = some r → XR l G xEX12_cut (d + 6) (9, [some (.ref 1262), some (.int x1), some (.int x2)], [], h) (fun C => ∃ v, xRet xEX12_cut C v ∧ (C.2.2.2 = r.2 ∧ v = none) ∧ LY r.2)) (hK81 : ∀ (x1 : Int32) (x2 : Int32) (h : XH), LY h → K81 x1 x2 h = some r → XR l G xEX12_cut (d + 6) (81, [some (.ref 1262), some (.int x1), some (.int x2)], [], h) (fun C => ∃ v, xRet xEX12_cut C v ∧ (C.2.2.2 = r.2 ∧ v = none) ∧ LY r.2)) (L0 : LY h) (hf : s_m_cut_81 K9 K81 x1 x2 h = some r) : XR l G xEX12_cut (d + 6) (81, [some (.ref 1262), some (.int x1), some (.int x2)], [], h) (fun C => ∃ v, xRet xEX12_cut C v ∧ (C.2.2.2 = r.2 ∧ v = none) ∧ LY r.2) := by
  unfold s_m_cut_81 at hf
  refine XS.go (s_iloadn rfl rfl rfl) ?_
  refine XS.go (s_aloadn rfl rfl rfl) ?_
  refine XS.go (s_getie rfl xf12_181 (LY.lt L0 (by decide)) (LY.k1262 L0) (by decide) rfl rfl) ?_
  refine r_icmp_ge (tgt := 9) rfl rfl (fun qc10 => ?_) (fun qc10 => ?_)
  · replace hf := xi_pos hf qc10
    exact XR.forget (L2 := [some (.ref 1262), some (.int x1), some (.int x2)]) ⟨rfl, ⟨rfl, ⟨rfl, trivial⟩⟩⟩ (hK9 x1 x2 _ L0 hf)
  · replace hf := xi_neg hf qc10
    refine XS.go (s_aloadn rfl rfl rfl) ?_
    refine XS.go (s_getr rfl xf12_13 (LY.lt L0 (by decide)) (LY.k1262 L0) (by decide) rfl (LY.r1262_3 L0)) ?_
    refine XS.go (s_iloadn rfl rfl rfl) ?_
    replace hf := xi_none hf
    obtain ⟨qk11, hf⟩ := hf
    refine XS.go (s_ialde rfl (LY.lt L0 (by decide)) (LY.k1264 L0) (inLit (LY.n1264 L0) qk11.1 qk11.2 (by decide)) rfl) ?_
    refine XS.go (s_bipush (v := 10) rfl rfl) ?_
    refine r_icmp_eq (tgt := 9) rfl rfl (fun qc12 => ?_) (fun qc12 => ?_)
    · replace hf := xi_pos hf qc12
      exact XR.forget (L2 := [some (.ref 1262), some (.int x1), some (.int x2)]) ⟨rfl, ⟨rfl, ⟨rfl, trivial⟩⟩⟩ (hK9 x1 x2 _ L0 hf)
    · replace hf := xi_neg hf qc12
      refine XS.go (XS.lcl (L3 := [some (.ref 1262), some (.int (x1 + 1)), some (.int x2)]) (s_inc rfl rfl (Nat.le_of_ble_eq_true rfl)) rfl) ?_
      refine XS.go (s_goto (tgt := 81) rfl rfl) ?_
      exact XR.forget (L2 := [some (.ref 1262), some (.int (x1 + 1)), some (.int x2)]) ⟨rfl, ⟨rfl, ⟨rfl, trivial⟩⟩⟩ (hK81 (x1 + 1) x2 _ L0 hf)
def b_m_cut_81 (K9 : Int32 → Int32 → XH → Option (Unit × XH)) : Nat → Int32 → Int32 → XH → Option (Unit × XH)
  | 0, _, _, _ => none
  | n + 1, x1, x2, h => s_m_cut_81 K9 (b_m_cut_81 K9 n) x1 x2 h
theorem kb_m_cut_81 {l : Launch} {G : XG} {d : Nat} {K9 : Int32 → Int32 → XH → Option (Unit × XH)} {n : Nat} {x1 : Int32} {x2 : Int32} {h : XH} {r : Unit × XH} (hK9 : ∀ (x1 : Int32) (x2 : Int32) (h : XH), LY h → K9 x1 x2 h = some r → XR l G xEX12_cut (d + 6) (9, [some (.ref 1262), some (.int x1), some (.int x2)], [], h) (fun C => ∃ v, xRet xEX12_cut C v ∧ (C.2.2.2 = r.2 ∧ v = none) ∧ LY r.2)) (L0 : LY h) (hf : b_m_cut_81 K9 n x1 x2 h = some r) : XR l G xEX12_cut (d + 6) (81, [some (.ref 1262), some (.int x1), some (.int x2)], [], h) (fun C => ∃ v, xRet xEX12_cut C v ∧ (C.2.2.2 = r.2 ∧ v = none) ∧ LY r.2) := by
  induction n generalizing x1 x2 h with
  | zero => cases hf
  | succ n ih => exact ks_m_cut_81 hK9 (fun x1 x2 h L0 hf => ih (h := h) (x1 := x1) (x2 := x2) L0 hf) L0 hf
def b_m_cut_53 (K9 : Int32 → Int32 → XH → Option (Unit × XH)) (K13 : Int32 → Int32 → XH → Option (Unit × XH)) (x1 : Int32) (x2 : Int32) (h : XH) : Option (Unit × XH) := (K13 (x1 + 1) x2 h)
set_option maxRecDepth 20000 in
theorem kb_m_cut_53 {l : Launch} {G : XG} {d : Nat} {K9 : Int32 → Int32 → XH → Option (Unit × XH)} {K13 : Int32 → Int32 → XH → Option (Unit × XH)} {x1 : Int32} {x2 : Int32} {h : XH} {r : Unit × XH} (hK9 : ∀ (x1 : Int32) (x2 : Int32) (h : XH), LY h → K9 x1 x2 h = some r → XR l G xEX12_cut (d + 6) (9, [some (.ref 1262), some (.int x1), some (.int x2)], [], h) (fun C => ∃ v, xRet xEX12_cut C v ∧ (C.2.2.2 = r.2 ∧ v = none) ∧ LY r.2)) (hK13 : ∀ (x1 : Int32) (x2 : Int32) (h : XH), LY h → K13 x1 x2 h = some r → XR l G xEX12_cut (d + 6) (13, [some (.ref 1262), some (.int x1), some (.int x2)], [], h) (fun C => ∃ v, xRet xEX12_cut C v ∧ (C.2.2.2 = r.2 ∧ v = none) ∧ LY r.2)) (L0 : LY h) (hf : b_m_cut_53 K9 K13 x1 x2 h = some r) : XR l G xEX12_cut (d + 6) (53, [some (.ref 1262), some (.int x1), some (.int x2)], [], h) (fun C => ∃ v, xRet xEX12_cut C v ∧ (C.2.2.2 = r.2 ∧ v = none) ∧ LY r.2) := by
  unfold b_m_cut_53 at hf
  refine XS.go (XS.lcl (L3 := [some (.ref 1262), some (.int (x1 + 1)), some (.int x2)]) (s_inc rfl rfl (Nat.le_of_ble_eq_true rfl)) rfl) ?_
  refine XS.go (s_goto (tgt := 13) rfl rfl) ?_
  exact XR.forget (L2 := [some (.ref 1262), some (.int (x1 + 1)), some (.int x2)]) ⟨rfl, ⟨rfl, ⟨rfl, trivial⟩⟩⟩ (hK13 (x1 + 1) x2 _ L0 hf)
def s_m_cut_13 (K9 : Int32 → Int32 → XH → Option (Unit × XH)) (K13 : Int32 → Int32 → XH → Option (Unit × XH)) (x1 : Int32) (x2 : Int32) (h : XH) : Option (Unit × XH) := (Option.bind (f_m_signAt x1 h) fun r13 => (if r13.1 = 32 then (b_m_cut_53 K9 K13 x1 x2 r13.2) else (Option.bind (f_m_signAt x1 r13.2) fun r17 => (if r17.1 = 9 then (b_m_cut_53 K9 K13 x1 x2 r17.2) else (Option.bind (f_m_signAt x1 r17.2) fun r21 => (if r21.1 = 10 then (b_m_cut_53 K9 K13 x1 x2 r21.2) else (Option.bind (f_m_signAt x1 r21.2) fun r25 => (if ¬ r25.1 = 13 then (Option.bind (f_m_signAt x1 r25.2) fun r29 => (if ¬ r29.1 = 47 then (b_m_cut_106 K9 x1 r29.2) else (Option.bind (f_m_signAt (x1 + 1) r29.2) fun r33 => (if ¬ r33.1 = 47 then (b_m_cut_106 K9 x1 r33.2) else (b_m_cut_81 K9 100000 x1 x2 r33.2))))) else (b_m_cut_53 K9 K13 x1 x2 r25.2)))))))))
set_option maxRecDepth 20000 in
theorem ks_m_cut_13 {l : Launch} {G : XG} {d : Nat} {K9 : Int32 → Int32 → XH → Option (Unit × XH)} {K13 : Int32 → Int32 → XH → Option (Unit × XH)} {x1 : Int32} {x2 : Int32} {h : XH} {r : Unit × XH} (hK9 : ∀ (x1 : Int32) (x2 : Int32) (h : XH), LY h → K9 x1 x2 h = some r → XR l G xEX12_cut (d + 6) (9, [some (.ref 1262), some (.int x1), some (.int x2)], [], h) (fun C => ∃ v, xRet xEX12_cut C v ∧ (C.2.2.2 = r.2 ∧ v = none) ∧ LY r.2)) (hK13 : ∀ (x1 : Int32) (x2 : Int32) (h : XH), LY h → K13 x1 x2 h = some r → XR l G xEX12_cut (d + 6) (13, [some (.ref 1262), some (.int x1), some (.int x2)], [], h) (fun C => ∃ v, xRet xEX12_cut C v ∧ (C.2.2.2 = r.2 ∧ v = none) ∧ LY r.2)) (L0 : LY h) (hf : s_m_cut_13 K9 K13 x1 x2 h = some r) : XR l G xEX12_cut (d + 6) (13, [some (.ref 1262), some (.int x1), some (.int x2)], [], h) (fun C => ∃ v, xRet xEX12_cut C v ∧ (C.2.2.2 = r.2 ∧ v = none) ∧ LY r.2) := by
  unfold s_m_cut_13 at hf
  refine XS.go (s_aloadn rfl rfl rfl) ?_
  refine XS.go (s_iloadn rfl rfl rfl) ?_
  replace hf := xb_some hf
  obtain ⟨r13, e14, hf⟩ := hf
  refine r_callv rfl xvX12_signAt xm12_187 (kf_m_signAt (d := d) L0 e14) (LY.lt L0 (by decide)) (LY.k1262 L0) (by decide) rfl rfl (dl0 (by decide)) (by decide) (Nat.le_of_ble_eq_true rfl) ?_
  rintro _ _ ⟨⟨rfl, rfl⟩, L15⟩
  refine XS.go (s_bipush (v := 32) rfl rfl) ?_
  refine r_icmp_eq (tgt := 53) rfl rfl (fun qc16 => ?_) (fun qc16 => ?_)
  · replace hf := xi_pos hf qc16
    exact XR.forget (L2 := [some (.ref 1262), some (.int x1), some (.int x2)]) ⟨rfl, ⟨rfl, ⟨rfl, trivial⟩⟩⟩ (kb_m_cut_53 hK9 hK13 L15 hf)
  · replace hf := xi_neg hf qc16
    refine XS.go (s_aloadn rfl rfl rfl) ?_
    refine XS.go (s_iloadn rfl rfl rfl) ?_
    replace hf := xb_some hf
    obtain ⟨r17, e18, hf⟩ := hf
    refine r_callv rfl xvX12_signAt xm12_187 (kf_m_signAt (d := d) L15 e18) (LY.lt L15 (by decide)) (LY.k1262 L15) (by decide) rfl rfl (dl0 (by decide)) (by decide) (Nat.le_of_ble_eq_true rfl) ?_
    rintro _ _ ⟨⟨rfl, rfl⟩, L19⟩
    refine XS.go (s_bipush (v := 9) rfl rfl) ?_
    refine r_icmp_eq (tgt := 53) rfl rfl (fun qc20 => ?_) (fun qc20 => ?_)
    · replace hf := xi_pos hf qc20
      exact XR.forget (L2 := [some (.ref 1262), some (.int x1), some (.int x2)]) ⟨rfl, ⟨rfl, ⟨rfl, trivial⟩⟩⟩ (kb_m_cut_53 hK9 hK13 L19 hf)
    · replace hf := xi_neg hf qc20
      refine XS.go (s_aloadn rfl rfl rfl) ?_
      refine XS.go (s_iloadn rfl rfl rfl) ?_
      replace hf := xb_some hf
      obtain ⟨r21, e22, hf⟩ := hf
      refine r_callv rfl xvX12_signAt xm12_187 (kf_m_signAt (d := d) L19 e22) (LY.lt L19 (by decide)) (LY.k1262 L19) (by decide) rfl rfl (dl0 (by decide)) (by decide) (Nat.le_of_ble_eq_true rfl) ?_
      rintro _ _ ⟨⟨rfl, rfl⟩, L23⟩
      refine XS.go (s_bipush (v := 10) rfl rfl) ?_
      refine r_icmp_eq (tgt := 53) rfl rfl (fun qc24 => ?_) (fun qc24 => ?_)
      · replace hf := xi_pos hf qc24
        exact XR.forget (L2 := [some (.ref 1262), some (.int x1), some (.int x2)]) ⟨rfl, ⟨rfl, ⟨rfl, trivial⟩⟩⟩ (kb_m_cut_53 hK9 hK13 L23 hf)
      · replace hf := xi_neg hf qc24
        refine XS.go (s_aloadn rfl rfl rfl) ?_
        refine XS.go (s_iloadn rfl rfl rfl) ?_
        replace hf := xb_some hf
        obtain ⟨r25, e26, hf⟩ := hf
        refine r_callv rfl xvX12_signAt xm12_187 (kf_m_signAt (d := d) L23 e26) (LY.lt L23 (by decide)) (LY.k1262 L23) (by decide) rfl rfl (dl0 (by decide)) (by decide) (Nat.le_of_ble_eq_true rfl) ?_
        rintro _ _ ⟨⟨rfl, rfl⟩, L27⟩
        refine XS.go (s_bipush (v := 13) rfl rfl) ?_
        refine r_icmp_ne (tgt := 59) rfl rfl (fun qc28 => ?_) (fun qc28 => ?_)
        · replace hf := xi_pos hf qc28
          refine XS.go (s_aloadn rfl rfl rfl) ?_
          refine XS.go (s_iloadn rfl rfl rfl) ?_
          replace hf := xb_some hf
          obtain ⟨r29, e30, hf⟩ := hf
          refine r_callv rfl xvX12_signAt xm12_187 (kf_m_signAt (d := d) L27 e30) (LY.lt L27 (by decide)) (LY.k1262 L27) (by decide) rfl rfl (dl0 (by decide)) (by decide) (Nat.le_of_ble_eq_true rfl) ?_
          rintro _ _ ⟨⟨rfl, rfl⟩, L31⟩
          refine XS.go (s_bipush (v := 47) rfl rfl) ?_
          refine r_icmp_ne (tgt := 106) rfl rfl (fun qc32 => ?_) (fun qc32 => ?_)
          · replace hf := xi_pos hf qc32
            exact XR.forget (L2 := [some (.ref 1262), some (.int x1), none]) ⟨rfl, ⟨rfl, trivial⟩⟩ (kb_m_cut_106 hK9 L31 hf)
          · replace hf := xi_neg hf qc32
            refine XS.go (s_aloadn rfl rfl rfl) ?_
            refine XS.go (s_iloadn rfl rfl rfl) ?_
            refine XS.go (s_iconst (v := 1) rfl rfl) ?_
            refine XS.go (s_iadd rfl) ?_
            replace hf := xb_some hf
            obtain ⟨r33, e34, hf⟩ := hf
            refine r_callv rfl xvX12_signAt xm12_187 (kf_m_signAt (d := d) L31 e34) (LY.lt L31 (by decide)) (LY.k1262 L31) (by decide) rfl rfl (dl0 (by decide)) (by decide) (Nat.le_of_ble_eq_true rfl) ?_
            rintro _ _ ⟨⟨rfl, rfl⟩, L35⟩
            refine XS.go (s_bipush (v := 47) rfl rfl) ?_
            refine r_icmp_ne (tgt := 106) rfl rfl (fun qc36 => ?_) (fun qc36 => ?_)
            · replace hf := xi_pos hf qc36
              exact XR.forget (L2 := [some (.ref 1262), some (.int x1), none]) ⟨rfl, ⟨rfl, trivial⟩⟩ (kb_m_cut_106 hK9 L35 hf)
            · replace hf := xi_neg hf qc36
              exact XR.forget (L2 := [some (.ref 1262), some (.int x1), some (.int x2)]) ⟨rfl, ⟨rfl, ⟨rfl, trivial⟩⟩⟩ (kb_m_cut_81 hK9 L35 hf)
        · replace hf := xi_neg hf qc28
          exact XR.forget (L2 := [some (.ref 1262), some (.int x1), some (.int x2)]) ⟨rfl, ⟨rfl, ⟨rfl, trivial⟩⟩⟩ (kb_m_cut_53 hK9 hK13 L27 hf)
def b_m_cut_13 (K9 : Int32 → Int32 → XH → Option (Unit × XH)) : Nat → Int32 → Int32 → XH → Option (Unit × XH)
  | 0, _, _, _ => none
  | n + 1, x1, x2, h => s_m_cut_13 K9 (b_m_cut_13 K9 n) x1 x2 h
theorem kb_m_cut_13 {l : Launch} {G : XG} {d : Nat} {K9 : Int32 → Int32 → XH → Option (Unit × XH)} {n : Nat} {x1 : Int32} {x2 : Int32} {h : XH} {r : Unit × XH} (hK9 : ∀ (x1 : Int32) (x2 : Int32) (h : XH), LY h → K9 x1 x2 h = some r → XR l G xEX12_cut (d + 6) (9, [some (.ref 1262), some (.int x1), some (.int x2)], [], h) (fun C => ∃ v, xRet xEX12_cut C v ∧ (C.2.2.2 = r.2 ∧ v = none) ∧ LY r.2)) (L0 : LY h) (hf : b_m_cut_13 K9 n x1 x2 h = some r) : XR l G xEX12_cut (d + 6) (13, [some (.ref 1262), some (.int x1), some (.int x2)], [], h) (fun C => ∃ v, xRet xEX12_cut C v ∧ (C.2.2.2 = r.2 ∧ v = none) ∧ LY r.2) := by
  induction n generalizing x1 x2 h with
  | zero => cases hf
  | succ n ih => exact ks_m_cut_13 hK9 (fun x1 x2 h L0 hf => ih (h := h) (x1 := x1) (x2 := x2) L0 hf) L0 hf
def s_m_cut_9 (K9 : Int32 → Int32 → XH → Option (Unit × XH)) (x1 : Int32) (x2 : Int32) (h : XH) : Option (Unit × XH) := (if x2 = 0 then (some ((), h)) else (b_m_cut_13 K9 100000 x1 x2 h))
set_option maxRecDepth 20000 in
theorem ks_m_cut_9 {l : Launch} {G : XG} {d : Nat} {K9 : Int32 → Int32 → XH → Option (Unit × XH)} {x1 : Int32} {x2 : Int32} {h : XH} {r : Unit × XH} (hK9 : ∀ (x1 : Int32) (x2 : Int32) (h : XH), LY h → K9 x1 x2 h = some r → XR l G xEX12_cut (d + 6) (9, [some (.ref 1262), some (.int x1), some (.int x2)], [], h) (fun C => ∃ v, xRet xEX12_cut C v ∧ (C.2.2.2 = r.2 ∧ v = none) ∧ LY r.2)) (L0 : LY h) (hf : s_m_cut_9 K9 x1 x2 h = some r) : XR l G xEX12_cut (d + 6) (9, [some (.ref 1262), some (.int x1), some (.int x2)], [], h) (fun C => ∃ v, xRet xEX12_cut C v ∧ (C.2.2.2 = r.2 ∧ v = none) ∧ LY r.2) := by
  unfold s_m_cut_9 at hf
  refine XS.go (s_iloadn rfl rfl rfl) ?_
  refine r_if_eq (tgt := 163) rfl rfl (fun qc37 => ?_) (fun qc37 => ?_)
  · replace hf := xi_pos hf qc37
    cases hf
    exact XR.retv rfl rfl (fun hret => ⟨_, hret, ⟨rfl, rfl⟩, L0⟩)
  · replace hf := xi_neg hf qc37
    exact XR.forget (L2 := [some (.ref 1262), some (.int x1), some (.int x2)]) ⟨rfl, ⟨rfl, ⟨rfl, trivial⟩⟩⟩ (kb_m_cut_13 hK9 L0 hf)
def b_m_cut_9 : Nat → Int32 → Int32 → XH → Option (Unit × XH)
  | 0, _, _, _ => none
  | n + 1, x1, x2, h => s_m_cut_9 (b_m_cut_9 n) x1 x2 h
theorem kb_m_cut_9 {l : Launch} {G : XG} {d : Nat} {n : Nat} {x1 : Int32} {x2 : Int32} {h : XH} {r : Unit × XH} (L0 : LY h) (hf : b_m_cut_9 n x1 x2 h = some r) : XR l G xEX12_cut (d + 6) (9, [some (.ref 1262), some (.int x1), some (.int x2)], [], h) (fun C => ∃ v, xRet xEX12_cut C v ∧ (C.2.2.2 = r.2 ∧ v = none) ∧ LY r.2) := by
  induction n generalizing x1 x2 h with
  | zero => cases hf
  | succ n ih => exact ks_m_cut_9 (fun x1 x2 h L0 hf => ih (h := h) (x1 := x1) (x2 := x2) L0 hf) L0 hf
def f_m_cut (h : XH) : Option (Unit × XH) := (b_m_cut_9 100000 0 1 (hsi h 1262 12 0))
set_option maxRecDepth 20000 in
theorem kf_m_cut {l : Launch} {G : XG} {d : Nat} {h : XH} {r : Unit × XH} (L0 : LY h) (hf : f_m_cut h = some r) : XC l G xEX12_cut (d + 6) [.ref 1262] h (fun v h2 => (h2 = r.2 ∧ v = none) ∧ LY r.2) := by
  refine XC.virt xvX12_cut (Nat.le_of_ble_eq_true rfl) ?_
  unfold f_m_cut at hf
  refine XR.norm (L3 := [some (.ref 1262), none, none]) rfl ?_
  refine XS.go (s_aloadn rfl rfl rfl) ?_
  refine XS.go (s_iconst (v := 0) rfl rfl) ?_
  refine XS.go (s_puti rfl xf12_184 (LY.lt L0 (by decide)) (LY.k1262 L0) (by decide) rfl (Or.inl rfl)) ?_
  refine XS.go (s_iconst (v := 0) rfl rfl) ?_
  refine XS.go (XS.lcl (L3 := [some (.ref 1262), some (.int 0), none]) (s_istoren rfl rfl (Nat.le_of_ble_eq_true rfl)) rfl) ?_
  refine XS.go (s_iconst (v := 1) rfl rfl) ?_
  refine XS.go (XS.lcl (L3 := [some (.ref 1262), some (.int 0), some (.int 1)]) (s_istoren rfl rfl (Nat.le_of_ble_eq_true rfl)) rfl) ?_
  exact XR.forget (L2 := [some (.ref 1262), some (.int 0), some (.int 1)]) ⟨rfl, ⟨rfl, ⟨rfl, trivial⟩⟩⟩ (kb_m_cut_9 (by simp only [LY_si, LY_sj]; exact L0) hf)
def b_m_sameName_88 (K41 : Int32 → Int32 → Int32 → Int32 → Int32 → XH → Option (Int32 × XH)) (x1 : Int32) (x2 : Int32) (x3 : Int32) (x5 : Int32) (y0 : Int32) (h : XH) : Option (Int32 × XH) := (K41 x1 x2 x3 y0 (x5 + 1) h)
set_option maxRecDepth 20000 in
theorem kb_m_sameName_88 {l : Launch} {G : XG} {d : Nat} {K41 : Int32 → Int32 → Int32 → Int32 → Int32 → XH → Option (Int32 × XH)} {x1 : Int32} {x2 : Int32} {x3 : Int32} {x5 : Int32} {y0 : Int32} {h : XH} {r : Int32 × XH} (hK41 : ∀ (x1 : Int32) (x2 : Int32) (x3 : Int32) (x4 : Int32) (x5 : Int32) (h : XH), LY h → K41 x1 x2 x3 x4 x5 h = some r → XR l G xEX12_sameName d (41, [some (.ref 1262), some (.int x1), some (.int x2), some (.int x3), some (.int x4), some (.int x5)], [], h) (fun C => ∃ v, xRet xEX12_sameName C v ∧ (C.2.2.2 = r.2 ∧ v = some (.int r.1)) ∧ LY r.2)) (L0 : LY h) (hf : b_m_sameName_88 K41 x1 x2 x3 x5 y0 h = some r) : XR l G xEX12_sameName d (88, [some (.ref 1262), some (.int x1), some (.int x2), some (.int x3), none, some (.int x5)], [(.int y0)], h) (fun C => ∃ v, xRet xEX12_sameName C v ∧ (C.2.2.2 = r.2 ∧ v = some (.int r.1)) ∧ LY r.2) := by
  unfold b_m_sameName_88 at hf
  refine XS.go (XS.lcl (L3 := [some (.ref 1262), some (.int x1), some (.int x2), some (.int x3), some (.int y0), some (.int x5)]) (s_istore rfl (Nat.le_of_ble_eq_true rfl)) rfl) ?_
  refine XS.go (XS.lcl (L3 := [some (.ref 1262), some (.int x1), some (.int x2), some (.int x3), some (.int y0), some (.int (x5 + 1))]) (s_inc rfl rfl (Nat.le_of_ble_eq_true rfl)) rfl) ?_
  refine XS.go (s_goto (tgt := 41) rfl rfl) ?_
  exact XR.forget (L2 := [some (.ref 1262), some (.int x1), some (.int x2), some (.int x3), some (.int y0), some (.int (x5 + 1))]) ⟨rfl, ⟨rfl, ⟨rfl, ⟨rfl, ⟨rfl, ⟨rfl, trivial⟩⟩⟩⟩⟩⟩ (hK41 x1 x2 x3 y0 (x5 + 1) _ L0 hf)
def s_m_sameName_41 (K41 : Int32 → Int32 → Int32 → Int32 → Int32 → XH → Option (Int32 × XH)) (x1 : Int32) (x2 : Int32) (x3 : Int32) (x4 : Int32) (x5 : Int32) (h : XH) : Option (Int32 × XH) := (if x3 ≤ x5 then (if x4 = 0 ∨ x4 = 1 then (some (x4, h)) else none) else (if x4 = 0 then (if x4 = 0 ∨ x4 = 1 then (some (x4, h)) else none) else (if 0 ≤ x1 ∧ x1 < nI 4001 then (if 0 ≤ ((hi h 1267 (Int32.toNatClampNeg x1)) + x5) ∧ ((hi h 1267 (Int32.toNatClampNeg x1)) + x5) < nI 4000 then (if 0 ≤ x2 ∧ x2 < nI 4001 then (if 0 ≤ ((hi h 1267 (Int32.toNatClampNeg x2)) + x5) ∧ ((hi h 1267 (Int32.toNatClampNeg x2)) + x5) < nI 4000 then (if ¬ (hi h 1264 (Int32.toNatClampNeg ((hi h 1267 (Int32.toNatClampNeg x1)) + x5))) = (hi h 1264 (Int32.toNatClampNeg ((hi h 1267 (Int32.toNatClampNeg x2)) + x5))) then (b_m_sameName_88 K41 x1 x2 x3 x5 0 h) else (b_m_sameName_88 K41 x1 x2 x3 x5 1 h)) else none) else none) else none) else none)))
set_option maxRecDepth 20000 in
theorem ks_m_sameName_41 {l : Launch} {G : XG} {d : Nat} {K41 : Int32 → Int32 → Int32 → Int32 → Int32 → XH → Option (Int32 × XH)} {x1 : Int32} {x2 : Int32} {x3 : Int32} {x4 : Int32} {x5 : Int32} {h : XH} {r : Int32 × XH} (hK41 : ∀ (x1 : Int32) (x2 : Int32) (x3 : Int32) (x4 : Int32) (x5 : Int32) (h : XH), LY h → K41 x1 x2 x3 x4 x5 h = some r → XR l G xEX12_sameName d (41, [some (.ref 1262), some (.int x1), some (.int x2), some (.int x3), some (.int x4), some (.int x5)], [], h) (fun C => ∃ v, xRet xEX12_sameName C v ∧ (C.2.2.2 = r.2 ∧ v = some (.int r.1)) ∧ LY r.2)) (L0 : LY h) (hf : s_m_sameName_41 K41 x1 x2 x3 x4 x5 h = some r) : XR l G xEX12_sameName d (41, [some (.ref 1262), some (.int x1), some (.int x2), some (.int x3), some (.int x4), some (.int x5)], [], h) (fun C => ∃ v, xRet xEX12_sameName C v ∧ (C.2.2.2 = r.2 ∧ v = some (.int r.1)) ∧ LY r.2) := by
  unfold s_m_sameName_41 at hf
  refine XS.go (s_iload rfl rfl) ?_
  refine XS.go (s_iloadn rfl rfl rfl) ?_
  refine r_icmp_ge (tgt := 96) rfl rfl (fun qc1 => ?_) (fun qc1 => ?_)
  · replace hf := xi_pos hf qc1
    refine XS.go (s_iload rfl rfl) ?_
    replace hf := xi_none hf
    obtain ⟨qk2, hf⟩ := hf
    cases hf
    exact XR.retz rfl rfl qk2 (fun hret => ⟨_, hret, ⟨rfl, rfl⟩, L0⟩)
  · replace hf := xi_neg hf qc1
    refine XS.go (s_iload rfl rfl) ?_
    refine r_if_eq (tgt := 96) rfl rfl (fun qc3 => ?_) (fun qc3 => ?_)
    · replace hf := xi_pos hf qc3
      refine XS.go (s_iload rfl rfl) ?_
      replace hf := xi_none hf
      obtain ⟨qk4, hf⟩ := hf
      cases hf
      exact XR.retz rfl rfl qk4 (fun hret => ⟨_, hret, ⟨rfl, rfl⟩, L0⟩)
    · replace hf := xi_neg hf qc3
      refine XS.go (s_aloadn rfl rfl rfl) ?_
      refine XS.go (s_getr rfl xf12_13 (LY.lt L0 (by decide)) (LY.k1262 L0) (by decide) rfl (LY.r1262_3 L0)) ?_
      refine XS.go (s_aloadn rfl rfl rfl) ?_
      refine XS.go (s_getr rfl xf12_22 (LY.lt L0 (by decide)) (LY.k1262 L0) (by decide) rfl (LY.r1262_9 L0)) ?_
      refine XS.go (s_iloadn rfl rfl rfl) ?_
      replace hf := xi_none hf
      obtain ⟨qk5, hf⟩ := hf
      refine XS.go (s_ialde rfl (LY.lt L0 (by decide)) (LY.k1267 L0) (inLit (LY.n1267 L0) qk5.1 qk5.2 (by decide)) rfl) ?_
      refine XS.go (s_iload rfl rfl) ?_
      refine XS.go (s_iadd rfl) ?_
      replace hf := xi_none hf
      obtain ⟨qk6, hf⟩ := hf
      refine XS.go (s_ialde rfl (LY.lt L0 (by decide)) (LY.k1264 L0) (inLit (LY.n1264 L0) qk6.1 qk6.2 (by decide)) rfl) ?_
      refine XS.go (s_aloadn rfl rfl rfl) ?_
      refine XS.go (s_getr rfl xf12_13 (LY.lt L0 (by decide)) (LY.k1262 L0) (by decide) rfl (LY.r1262_3 L0)) ?_
      refine XS.go (s_aloadn rfl rfl rfl) ?_
      refine XS.go (s_getr rfl xf12_22 (LY.lt L0 (by decide)) (LY.k1262 L0) (by decide) rfl (LY.r1262_9 L0)) ?_
      refine XS.go (s_iloadn rfl rfl rfl) ?_
      replace hf := xi_none hf
      obtain ⟨qk7, hf⟩ := hf
      refine XS.go (s_ialde rfl (LY.lt L0 (by decide)) (LY.k1267 L0) (inLit (LY.n1267 L0) qk7.1 qk7.2 (by decide)) rfl) ?_
      refine XS.go (s_iload rfl rfl) ?_
      refine XS.go (s_iadd rfl) ?_
      replace hf := xi_none hf
      obtain ⟨qk8, hf⟩ := hf
      refine XS.go (s_ialde rfl (LY.lt L0 (by decide)) (LY.k1264 L0) (inLit (LY.n1264 L0) qk8.1 qk8.2 (by decide)) rfl) ?_
      refine r_icmp_ne (tgt := 87) rfl rfl (fun qc9 => ?_) (fun qc9 => ?_)
      · replace hf := xi_pos hf qc9
        refine XS.go (s_iconst (v := 0) rfl rfl) ?_
        exact XR.forget (L2 := [some (.ref 1262), some (.int x1), some (.int x2), some (.int x3), none, some (.int x5)]) ⟨rfl, ⟨rfl, ⟨rfl, ⟨rfl, ⟨rfl, trivial⟩⟩⟩⟩⟩ (kb_m_sameName_88 hK41 L0 hf)
      · replace hf := xi_neg hf qc9
        refine XS.go (s_iconst (v := 1) rfl rfl) ?_
        refine XS.go (s_goto (tgt := 88) rfl rfl) ?_
        exact XR.forget (L2 := [some (.ref 1262), some (.int x1), some (.int x2), some (.int x3), none, some (.int x5)]) ⟨rfl, ⟨rfl, ⟨rfl, ⟨rfl, ⟨rfl, trivial⟩⟩⟩⟩⟩ (kb_m_sameName_88 hK41 L0 hf)
def b_m_sameName_41 : Nat → Int32 → Int32 → Int32 → Int32 → Int32 → XH → Option (Int32 × XH)
  | 0, _, _, _, _, _, _ => none
  | n + 1, x1, x2, x3, x4, x5, h => s_m_sameName_41 (b_m_sameName_41 n) x1 x2 x3 x4 x5 h
theorem kb_m_sameName_41 {l : Launch} {G : XG} {d : Nat} {n : Nat} {x1 : Int32} {x2 : Int32} {x3 : Int32} {x4 : Int32} {x5 : Int32} {h : XH} {r : Int32 × XH} (L0 : LY h) (hf : b_m_sameName_41 n x1 x2 x3 x4 x5 h = some r) : XR l G xEX12_sameName d (41, [some (.ref 1262), some (.int x1), some (.int x2), some (.int x3), some (.int x4), some (.int x5)], [], h) (fun C => ∃ v, xRet xEX12_sameName C v ∧ (C.2.2.2 = r.2 ∧ v = some (.int r.1)) ∧ LY r.2) := by
  induction n generalizing x1 x2 x3 x4 x5 h with
  | zero => cases hf
  | succ n ih => exact ks_m_sameName_41 (fun x1 x2 x3 x4 x5 h L0 hf => ih (h := h) (x1 := x1) (x2 := x2) (x3 := x3) (x4 := x4) (x5 := x5) L0 hf) L0 hf
def b_m_sameName_36 (x1 : Int32) (x2 : Int32) (x3 : Int32) (y0 : Int32) (h : XH) : Option (Int32 × XH) := (b_m_sameName_41 100000 x1 x2 x3 y0 0 h)
set_option maxRecDepth 20000 in
theorem kb_m_sameName_36 {l : Launch} {G : XG} {d : Nat} {x1 : Int32} {x2 : Int32} {x3 : Int32} {y0 : Int32} {h : XH} {r : Int32 × XH} (L0 : LY h) (hf : b_m_sameName_36 x1 x2 x3 y0 h = some r) : XR l G xEX12_sameName d (36, [some (.ref 1262), some (.int x1), some (.int x2), some (.int x3), none, none], [(.int y0)], h) (fun C => ∃ v, xRet xEX12_sameName C v ∧ (C.2.2.2 = r.2 ∧ v = some (.int r.1)) ∧ LY r.2) := by
  unfold b_m_sameName_36 at hf
  refine XS.go (XS.lcl (L3 := [some (.ref 1262), some (.int x1), some (.int x2), some (.int x3), some (.int y0), none]) (s_istore rfl (Nat.le_of_ble_eq_true rfl)) rfl) ?_
  refine XS.go (s_iconst (v := 0) rfl rfl) ?_
  refine XS.go (XS.lcl (L3 := [some (.ref 1262), some (.int x1), some (.int x2), some (.int x3), some (.int y0), some (.int 0)]) (s_istore rfl (Nat.le_of_ble_eq_true rfl)) rfl) ?_
  exact XR.forget (L2 := [some (.ref 1262), some (.int x1), some (.int x2), some (.int x3), some (.int y0), some (.int 0)]) ⟨rfl, ⟨rfl, ⟨rfl, ⟨rfl, ⟨rfl, ⟨rfl, trivial⟩⟩⟩⟩⟩⟩ (kb_m_sameName_41 L0 hf)
def f_m_sameName (a0 : Int32) (a1 : Int32) (h : XH) : Option (Int32 × XH) := (if 0 ≤ a0 ∧ a0 < nI 4001 then (if 0 ≤ a1 ∧ a1 < nI 4001 then (if ¬ ((hi h 1268 (Int32.toNatClampNeg a0)) - (hi h 1267 (Int32.toNatClampNeg a0))) = ((hi h 1268 (Int32.toNatClampNeg a1)) - (hi h 1267 (Int32.toNatClampNeg a1))) then (b_m_sameName_36 a0 a1 ((hi h 1268 (Int32.toNatClampNeg a0)) - (hi h 1267 (Int32.toNatClampNeg a0))) 0 h) else (b_m_sameName_36 a0 a1 ((hi h 1268 (Int32.toNatClampNeg a0)) - (hi h 1267 (Int32.toNatClampNeg a0))) 1 h)) else none) else none)
set_option maxRecDepth 20000 in
theorem kf_m_sameName {l : Launch} {G : XG} {d : Nat} {a0 : Int32} {a1 : Int32} {h : XH} {r : Int32 × XH} (L0 : LY h) (hf : f_m_sameName a0 a1 h = some r) : XC l G xEX12_sameName d [.ref 1262, .int a0, .int a1] h (fun v h2 => (h2 = r.2 ∧ v = some (.int r.1)) ∧ LY r.2) := by
  refine XC.virt xvX12_sameName (Nat.le_of_ble_eq_true rfl) ?_
  unfold f_m_sameName at hf
  refine XR.norm (L3 := [some (.ref 1262), some (.int a0), some (.int a1), none, none, none]) rfl ?_
  refine XS.go (s_aloadn rfl rfl rfl) ?_
  refine XS.go (s_getr rfl xf12_25 (LY.lt L0 (by decide)) (LY.k1262 L0) (by decide) rfl (LY.r1262_10 L0)) ?_
  refine XS.go (s_iloadn rfl rfl rfl) ?_
  replace hf := xi_none hf
  obtain ⟨qk10, hf⟩ := hf
  refine XS.go (s_ialde rfl (LY.lt L0 (by decide)) (LY.k1268 L0) (inLit (LY.n1268 L0) qk10.1 qk10.2 (by decide)) rfl) ?_
  refine XS.go (s_aloadn rfl rfl rfl) ?_
  refine XS.go (s_getr rfl xf12_22 (LY.lt L0 (by decide)) (LY.k1262 L0) (by decide) rfl (LY.r1262_9 L0)) ?_
  refine XS.go (s_iloadn rfl rfl rfl) ?_
  refine XS.go (s_ialde rfl (LY.lt L0 (by decide)) (LY.k1267 L0) (inLit (LY.n1267 L0) qk10.1 qk10.2 (by decide)) rfl) ?_
  refine XS.go (s_isub rfl) ?_
  refine XS.go (XS.lcl (L3 := [some (.ref 1262), some (.int a0), some (.int a1), some (.int ((hi h 1268 (Int32.toNatClampNeg a0)) - (hi h 1267 (Int32.toNatClampNeg a0)))), none, none]) (s_istoren rfl rfl (Nat.le_of_ble_eq_true rfl)) rfl) ?_
  refine XS.go (s_iloadn rfl rfl rfl) ?_
  refine XS.go (s_aloadn rfl rfl rfl) ?_
  refine XS.go (s_getr rfl xf12_25 (LY.lt L0 (by decide)) (LY.k1262 L0) (by decide) rfl (LY.r1262_10 L0)) ?_
  refine XS.go (s_iloadn rfl rfl rfl) ?_
  replace hf := xi_none hf
  obtain ⟨qk11, hf⟩ := hf
  refine XS.go (s_ialde rfl (LY.lt L0 (by decide)) (LY.k1268 L0) (inLit (LY.n1268 L0) qk11.1 qk11.2 (by decide)) rfl) ?_
  refine XS.go (s_aloadn rfl rfl rfl) ?_
  refine XS.go (s_getr rfl xf12_22 (LY.lt L0 (by decide)) (LY.k1262 L0) (by decide) rfl (LY.r1262_9 L0)) ?_
  refine XS.go (s_iloadn rfl rfl rfl) ?_
  refine XS.go (s_ialde rfl (LY.lt L0 (by decide)) (LY.k1267 L0) (inLit (LY.n1267 L0) qk11.1 qk11.2 (by decide)) rfl) ?_
  refine XS.go (s_isub rfl) ?_
  refine r_icmp_ne (tgt := 35) rfl rfl (fun qc12 => ?_) (fun qc12 => ?_)
  · replace hf := xi_pos hf qc12
    refine XS.go (s_iconst (v := 0) rfl rfl) ?_
    exact XR.forget (L2 := [some (.ref 1262), some (.int a0), some (.int a1), some (.int ((hi h 1268 (Int32.toNatClampNeg a0)) - (hi h 1267 (Int32.toNatClampNeg a0)))), none, none]) ⟨rfl, ⟨rfl, ⟨rfl, ⟨rfl, trivial⟩⟩⟩⟩ (kb_m_sameName_36 L0 hf)
  · replace hf := xi_neg hf qc12
    refine XS.go (s_iconst (v := 1) rfl rfl) ?_
    refine XS.go (s_goto (tgt := 36) rfl rfl) ?_
    exact XR.forget (L2 := [some (.ref 1262), some (.int a0), some (.int a1), some (.int ((hi h 1268 (Int32.toNatClampNeg a0)) - (hi h 1267 (Int32.toNatClampNeg a0)))), none, none]) ⟨rfl, ⟨rfl, ⟨rfl, ⟨rfl, trivial⟩⟩⟩⟩ (kb_m_sameName_36 L0 hf)
def f_m_flaw (a0 : Int32) (h : XH) : Option (Unit × XH) := (if ¬ (hi h 1262 14) = 0 then (some ((), h)) else (if 0 ≤ (hi h 1262 13) ∧ (hi h 1262 13) < nI 4001 then (some ((), (hsi (hsi h 1262 14 a0) 1262 15 (hi h 1267 (Int32.toNatClampNeg (hi h 1262 13)))))) else none))
set_option maxRecDepth 20000 in
theorem kf_m_flaw {l : Launch} {G : XG} {d : Nat} {a0 : Int32} {h : XH} {r : Unit × XH} (L0 : LY h) (hf : f_m_flaw a0 h = some r) : XC l G xEX12_flaw d [.ref 1262, .int a0] h (fun v h2 => (h2 = r.2 ∧ v = none) ∧ LY r.2) := by
  refine XC.virt xvX12_flaw (Nat.le_of_ble_eq_true rfl) ?_
  unfold f_m_flaw at hf
  refine XR.norm (L3 := [some (.ref 1262), some (.int a0)]) rfl ?_
  refine XS.go (s_aloadn rfl rfl rfl) ?_
  refine XS.go (s_getie rfl xf12_221 (LY.lt L0 (by decide)) (LY.k1262 L0) (by decide) rfl rfl) ?_
  refine r_if_ne (tgt := 25) rfl rfl (fun qc1 => ?_) (fun qc1 => ?_)
  · replace hf := xi_pos hf qc1
    cases hf
    exact XR.retv rfl rfl (fun hret => ⟨_, hret, ⟨rfl, rfl⟩, L0⟩)
  · replace hf := xi_neg hf qc1
    refine XS.go (s_aloadn rfl rfl rfl) ?_
    refine XS.go (s_iloadn rfl rfl rfl) ?_
    refine XS.go (s_puti rfl xf12_221 (LY.lt L0 (by decide)) (LY.k1262 L0) (by decide) rfl (Or.inl rfl)) ?_
    refine XS.go (s_aloadn rfl rfl rfl) ?_
    refine XS.go (s_aloadn rfl rfl rfl) ?_
    refine XS.go (s_getr rfl xf12_22 (LY.lt (by simp only [LY_si, LY_sj]; exact L0) (by decide)) (LY.k1262 (by simp only [LY_si, LY_sj]; exact L0)) (by decide) rfl (LY.r1262_9 (by simp only [LY_si, LY_sj]; exact L0))) ?_
    refine XS.go (s_aloadn rfl rfl rfl) ?_
    refine XS.go (s_getie rfl xf12_224 (LY.lt (by simp only [LY_si, LY_sj]; exact L0) (by decide)) (LY.k1262 (by simp only [LY_si, LY_sj]; exact L0)) (by decide) rfl (hi_hsi_nk (by decide))) ?_
    replace hf := xi_none hf
    obtain ⟨qk2, hf⟩ := hf
    refine XS.go (s_ialde rfl (LY.lt (by simp only [LY_si, LY_sj]; exact L0) (by decide)) (LY.k1267 (by simp only [LY_si, LY_sj]; exact L0)) (inLit (LY.n1267 (by simp only [LY_si, LY_sj]; exact L0)) qk2.1 qk2.2 (by decide)) (hi_hsi_na (by decide))) ?_
    refine XS.go (s_puti rfl xf12_227 (LY.lt (by simp only [LY_si, LY_sj]; exact L0) (by decide)) (LY.k1262 (by simp only [LY_si, LY_sj]; exact L0)) (by decide) rfl (Or.inl rfl)) ?_
    cases hf
    exact XR.retv rfl rfl (fun hret => ⟨_, hret, ⟨rfl, rfl⟩, (by simp only [LY_si, LY_sj]; exact L0)⟩)
def b_m_misfit_19 (y1 : Int32) (h : XH) : Option (Unit × XH) := (Option.bind (f_m_flaw y1 h) fun r1 => (some ((), r1.2)))
set_option maxRecDepth 20000 in
theorem kb_m_misfit_19 {l : Launch} {G : XG} {d : Nat} {y1 : Int32} {h : XH} {r : Unit × XH} (L0 : LY h) (hf : b_m_misfit_19 y1 h = some r) : XR l G xEX12_misfit (d + 1) (19, [none], [(.int y1), (.ref 1262)], h) (fun C => ∃ v, xRet xEX12_misfit C v ∧ (C.2.2.2 = r.2 ∧ v = none) ∧ LY r.2) := by
  unfold b_m_misfit_19 at hf
  replace hf := xb_some hf
  obtain ⟨r1, e2, hf⟩ := hf
  refine r_callv rfl xvX12_flaw xm12_230 (kf_m_flaw (d := d) L0 e2) (LY.lt L0 (by decide)) (LY.k1262 L0) (by decide) rfl rfl (dl0 (by decide)) (by decide) (Nat.le_of_ble_eq_true rfl) ?_
  rintro _ _ ⟨⟨rfl, rfl⟩, L3⟩
  cases hf
  exact XR.retv rfl rfl (fun hret => ⟨_, hret, ⟨rfl, rfl⟩, L3⟩)
def f_m_misfit (h : XH) : Option (Unit × XH) := (if 0 ≤ (hi h 1262 13) ∧ (hi h 1262 13) < nI 4001 then (if ¬ (hi h 1266 (Int32.toNatClampNeg (hi h 1262 13))) = 1 then (b_m_misfit_19 2 h) else (b_m_misfit_19 1 h)) else none)
set_option maxRecDepth 20000 in
theorem kf_m_misfit {l : Launch} {G : XG} {d : Nat} {h : XH} {r : Unit × XH} (L0 : LY h) (hf : f_m_misfit h = some r) : XC l G xEX12_misfit (d + 1) [.ref 1262] h (fun v h2 => (h2 = r.2 ∧ v = none) ∧ LY r.2) := by
  refine XC.virt xvX12_misfit (Nat.le_of_ble_eq_true rfl) ?_
  unfold f_m_misfit at hf
  refine XR.norm (L3 := [some (.ref 1262)]) rfl ?_
  refine XS.go (s_aloadn rfl rfl rfl) ?_
  refine XS.go (s_aloadn rfl rfl rfl) ?_
  refine XS.go (s_getr rfl xf12_19 (LY.lt L0 (by decide)) (LY.k1262 L0) (by decide) rfl (LY.r1262_8 L0)) ?_
  refine XS.go (s_aloadn rfl rfl rfl) ?_
  refine XS.go (s_getie rfl xf12_224 (LY.lt L0 (by decide)) (LY.k1262 L0) (by decide) rfl rfl) ?_
  replace hf := xi_none hf
  obtain ⟨qk4, hf⟩ := hf
  refine XS.go (s_ialde rfl (LY.lt L0 (by decide)) (LY.k1266 L0) (inLit (LY.n1266 L0) qk4.1 qk4.2 (by decide)) rfl) ?_
  refine XS.go (s_iconst (v := 1) rfl rfl) ?_
  refine r_icmp_ne (tgt := 18) rfl rfl (fun qc5 => ?_) (fun qc5 => ?_)
  · replace hf := xi_pos hf qc5
    refine XS.go (s_iconst (v := 2) rfl rfl) ?_
    exact XR.forget (L2 := [none]) trivial (kb_m_misfit_19 L0 hf)
  · replace hf := xi_neg hf qc5
    refine XS.go (s_iconst (v := 1) rfl rfl) ?_
    refine XS.go (s_goto (tgt := 19) rfl rfl) ?_
    exact XR.forget (L2 := [none]) trivial (kb_m_misfit_19 L0 hf)
def f_m_isSign (a0 : Int32) (h : XH) : Option (Int32 × XH) := (if ¬ (hi h 1262 14) = 0 then (some (0, h)) else (if 0 ≤ (hi h 1262 13) ∧ (hi h 1262 13) < nI 4001 then (if ¬ (hi h 1266 (Int32.toNatClampNeg (hi h 1262 13))) = 4 then (some (0, h)) else (if ¬ (hi h 1269 (Int32.toNatClampNeg (hi h 1262 13))) = a0 then (some (0, h)) else (some (1, h)))) else none))
set_option maxRecDepth 20000 in
theorem kf_m_isSign {l : Launch} {G : XG} {d : Nat} {a0 : Int32} {h : XH} {r : Int32 × XH} (L0 : LY h) (hf : f_m_isSign a0 h = some r) : XC l G xEX12_isSign d [.ref 1262, .int a0] h (fun v h2 => (h2 = r.2 ∧ v = some (.int r.1)) ∧ LY r.2) := by
  refine XC.virt xvX12_isSign (Nat.le_of_ble_eq_true rfl) ?_
  unfold f_m_isSign at hf
  refine XR.norm (L3 := [some (.ref 1262), some (.int a0)]) rfl ?_
  refine XS.go (s_aloadn rfl rfl rfl) ?_
  refine XS.go (s_getie rfl xf12_221 (LY.lt L0 (by decide)) (LY.k1262 L0) (by decide) rfl rfl) ?_
  refine r_if_ne (tgt := 37) rfl rfl (fun qc1 => ?_) (fun qc1 => ?_)
  · replace hf := xi_pos hf qc1
    refine XS.go (s_iconst (v := 0) rfl rfl) ?_
    cases hf
    exact XR.retz rfl rfl (by decide) (fun hret => ⟨_, hret, ⟨rfl, rfl⟩, L0⟩)
  · replace hf := xi_neg hf qc1
    refine XS.go (s_aloadn rfl rfl rfl) ?_
    refine XS.go (s_getr rfl xf12_19 (LY.lt L0 (by decide)) (LY.k1262 L0) (by decide) rfl (LY.r1262_8 L0)) ?_
    refine XS.go (s_aloadn rfl rfl rfl) ?_
    refine XS.go (s_getie rfl xf12_224 (LY.lt L0 (by decide)) (LY.k1262 L0) (by decide) rfl rfl) ?_
    replace hf := xi_none hf
    obtain ⟨qk2, hf⟩ := hf
    refine XS.go (s_ialde rfl (LY.lt L0 (by decide)) (LY.k1266 L0) (inLit (LY.n1266 L0) qk2.1 qk2.2 (by decide)) rfl) ?_
    refine XS.go (s_iconst (v := 4) rfl rfl) ?_
    refine r_icmp_ne (tgt := 37) rfl rfl (fun qc3 => ?_) (fun qc3 => ?_)
    · replace hf := xi_pos hf qc3
      refine XS.go (s_iconst (v := 0) rfl rfl) ?_
      cases hf
      exact XR.retz rfl rfl (by decide) (fun hret => ⟨_, hret, ⟨rfl, rfl⟩, L0⟩)
    · replace hf := xi_neg hf qc3
      refine XS.go (s_aloadn rfl rfl rfl) ?_
      refine XS.go (s_getr rfl xf12_28 (LY.lt L0 (by decide)) (LY.k1262 L0) (by decide) rfl (LY.r1262_11 L0)) ?_
      refine XS.go (s_aloadn rfl rfl rfl) ?_
      refine XS.go (s_getie rfl xf12_224 (LY.lt L0 (by decide)) (LY.k1262 L0) (by decide) rfl rfl) ?_
      refine XS.go (s_ialde rfl (LY.lt L0 (by decide)) (LY.k1269 L0) (inLit (LY.n1269 L0) qk2.1 qk2.2 (by decide)) rfl) ?_
      refine XS.go (s_iloadn rfl rfl rfl) ?_
      refine r_icmp_ne (tgt := 37) rfl rfl (fun qc4 => ?_) (fun qc4 => ?_)
      · replace hf := xi_pos hf qc4
        refine XS.go (s_iconst (v := 0) rfl rfl) ?_
        cases hf
        exact XR.retz rfl rfl (by decide) (fun hret => ⟨_, hret, ⟨rfl, rfl⟩, L0⟩)
      · replace hf := xi_neg hf qc4
        refine XS.go (s_iconst (v := 1) rfl rfl) ?_
        refine XS.go (s_goto (tgt := 38) rfl rfl) ?_
        cases hf
        exact XR.retz rfl rfl (by decide) (fun hret => ⟨_, hret, ⟨rfl, rfl⟩, L0⟩)
def f_m_isWord (a0 : Int32) (h : XH) : Option (Int32 × XH) := (if ¬ (hi h 1262 14) = 0 then (some (0, h)) else (if 0 ≤ (hi h 1262 13) ∧ (hi h 1262 13) < nI 4001 then (if ¬ (hi h 1266 (Int32.toNatClampNeg (hi h 1262 13))) = 2 then (some (0, h)) else (if ¬ (hi h 1269 (Int32.toNatClampNeg (hi h 1262 13))) = a0 then (some (0, h)) else (some (1, h)))) else none))
set_option maxRecDepth 20000 in
theorem kf_m_isWord {l : Launch} {G : XG} {d : Nat} {a0 : Int32} {h : XH} {r : Int32 × XH} (L0 : LY h) (hf : f_m_isWord a0 h = some r) : XC l G xEX12_isWord d [.ref 1262, .int a0] h (fun v h2 => (h2 = r.2 ∧ v = some (.int r.1)) ∧ LY r.2) := by
  refine XC.virt xvX12_isWord (Nat.le_of_ble_eq_true rfl) ?_
  unfold f_m_isWord at hf
  refine XR.norm (L3 := [some (.ref 1262), some (.int a0)]) rfl ?_
  refine XS.go (s_aloadn rfl rfl rfl) ?_
  refine XS.go (s_getie rfl xf12_221 (LY.lt L0 (by decide)) (LY.k1262 L0) (by decide) rfl rfl) ?_
  refine r_if_ne (tgt := 37) rfl rfl (fun qc1 => ?_) (fun qc1 => ?_)
  · replace hf := xi_pos hf qc1
    refine XS.go (s_iconst (v := 0) rfl rfl) ?_
    cases hf
    exact XR.retz rfl rfl (by decide) (fun hret => ⟨_, hret, ⟨rfl, rfl⟩, L0⟩)
  · replace hf := xi_neg hf qc1
    refine XS.go (s_aloadn rfl rfl rfl) ?_
    refine XS.go (s_getr rfl xf12_19 (LY.lt L0 (by decide)) (LY.k1262 L0) (by decide) rfl (LY.r1262_8 L0)) ?_
    refine XS.go (s_aloadn rfl rfl rfl) ?_
    refine XS.go (s_getie rfl xf12_224 (LY.lt L0 (by decide)) (LY.k1262 L0) (by decide) rfl rfl) ?_
    replace hf := xi_none hf
    obtain ⟨qk2, hf⟩ := hf
    refine XS.go (s_ialde rfl (LY.lt L0 (by decide)) (LY.k1266 L0) (inLit (LY.n1266 L0) qk2.1 qk2.2 (by decide)) rfl) ?_
    refine XS.go (s_iconst (v := 2) rfl rfl) ?_
    refine r_icmp_ne (tgt := 37) rfl rfl (fun qc3 => ?_) (fun qc3 => ?_)
    · replace hf := xi_pos hf qc3
      refine XS.go (s_iconst (v := 0) rfl rfl) ?_
      cases hf
      exact XR.retz rfl rfl (by decide) (fun hret => ⟨_, hret, ⟨rfl, rfl⟩, L0⟩)
    · replace hf := xi_neg hf qc3
      refine XS.go (s_aloadn rfl rfl rfl) ?_
      refine XS.go (s_getr rfl xf12_28 (LY.lt L0 (by decide)) (LY.k1262 L0) (by decide) rfl (LY.r1262_11 L0)) ?_
      refine XS.go (s_aloadn rfl rfl rfl) ?_
      refine XS.go (s_getie rfl xf12_224 (LY.lt L0 (by decide)) (LY.k1262 L0) (by decide) rfl rfl) ?_
      refine XS.go (s_ialde rfl (LY.lt L0 (by decide)) (LY.k1269 L0) (inLit (LY.n1269 L0) qk2.1 qk2.2 (by decide)) rfl) ?_
      refine XS.go (s_iloadn rfl rfl rfl) ?_
      refine r_icmp_ne (tgt := 37) rfl rfl (fun qc4 => ?_) (fun qc4 => ?_)
      · replace hf := xi_pos hf qc4
        refine XS.go (s_iconst (v := 0) rfl rfl) ?_
        cases hf
        exact XR.retz rfl rfl (by decide) (fun hret => ⟨_, hret, ⟨rfl, rfl⟩, L0⟩)
      · replace hf := xi_neg hf qc4
        refine XS.go (s_iconst (v := 1) rfl rfl) ?_
        refine XS.go (s_goto (tgt := 38) rfl rfl) ?_
        cases hf
        exact XR.retz rfl rfl (by decide) (fun hret => ⟨_, hret, ⟨rfl, rfl⟩, L0⟩)
def f_m_isScalar (h : XH) : Option (Int32 × XH) := (if ¬ (hi h 1262 14) = 0 then (some (0, h)) else (if 0 ≤ (hi h 1262 13) ∧ (hi h 1262 13) < nI 4001 then (if ¬ (hi h 1266 (Int32.toNatClampNeg (hi h 1262 13))) = 2 then (some (0, h)) else (if (hi h 1269 (Int32.toNatClampNeg (hi h 1262 13))) < 0 then (some (0, h)) else (if 11 ≤ (hi h 1269 (Int32.toNatClampNeg (hi h 1262 13))) then (some (0, h)) else (some (1, h))))) else none))
set_option maxRecDepth 20000 in
theorem kf_m_isScalar {l : Launch} {G : XG} {d : Nat} {h : XH} {r : Int32 × XH} (L0 : LY h) (hf : f_m_isScalar h = some r) : XC l G xEX12_isScalar d [.ref 1262] h (fun v h2 => (h2 = r.2 ∧ v = some (.int r.1)) ∧ LY r.2) := by
  refine XC.virt xvX12_isScalar (Nat.le_of_ble_eq_true rfl) ?_
  unfold f_m_isScalar at hf
  refine XR.norm (L3 := [some (.ref 1262)]) rfl ?_
  refine XS.go (s_aloadn rfl rfl rfl) ?_
  refine XS.go (s_getie rfl xf12_221 (LY.lt L0 (by decide)) (LY.k1262 L0) (by decide) rfl rfl) ?_
  refine r_if_ne (tgt := 50) rfl rfl (fun qc1 => ?_) (fun qc1 => ?_)
  · replace hf := xi_pos hf qc1
    refine XS.go (s_iconst (v := 0) rfl rfl) ?_
    cases hf
    exact XR.retz rfl rfl (by decide) (fun hret => ⟨_, hret, ⟨rfl, rfl⟩, L0⟩)
  · replace hf := xi_neg hf qc1
    refine XS.go (s_aloadn rfl rfl rfl) ?_
    refine XS.go (s_getr rfl xf12_19 (LY.lt L0 (by decide)) (LY.k1262 L0) (by decide) rfl (LY.r1262_8 L0)) ?_
    refine XS.go (s_aloadn rfl rfl rfl) ?_
    refine XS.go (s_getie rfl xf12_224 (LY.lt L0 (by decide)) (LY.k1262 L0) (by decide) rfl rfl) ?_
    replace hf := xi_none hf
    obtain ⟨qk2, hf⟩ := hf
    refine XS.go (s_ialde rfl (LY.lt L0 (by decide)) (LY.k1266 L0) (inLit (LY.n1266 L0) qk2.1 qk2.2 (by decide)) rfl) ?_
    refine XS.go (s_iconst (v := 2) rfl rfl) ?_
    refine r_icmp_ne (tgt := 50) rfl rfl (fun qc3 => ?_) (fun qc3 => ?_)
    · replace hf := xi_pos hf qc3
      refine XS.go (s_iconst (v := 0) rfl rfl) ?_
      cases hf
      exact XR.retz rfl rfl (by decide) (fun hret => ⟨_, hret, ⟨rfl, rfl⟩, L0⟩)
    · replace hf := xi_neg hf qc3
      refine XS.go (s_aloadn rfl rfl rfl) ?_
      refine XS.go (s_getr rfl xf12_28 (LY.lt L0 (by decide)) (LY.k1262 L0) (by decide) rfl (LY.r1262_11 L0)) ?_
      refine XS.go (s_aloadn rfl rfl rfl) ?_
      refine XS.go (s_getie rfl xf12_224 (LY.lt L0 (by decide)) (LY.k1262 L0) (by decide) rfl rfl) ?_
      refine XS.go (s_ialde rfl (LY.lt L0 (by decide)) (LY.k1269 L0) (inLit (LY.n1269 L0) qk2.1 qk2.2 (by decide)) rfl) ?_
      refine r_if_lt (tgt := 50) rfl rfl (fun qc4 => ?_) (fun qc4 => ?_)
      · replace hf := xi_pos hf qc4
        refine XS.go (s_iconst (v := 0) rfl rfl) ?_
        cases hf
        exact XR.retz rfl rfl (by decide) (fun hret => ⟨_, hret, ⟨rfl, rfl⟩, L0⟩)
      · replace hf := xi_neg hf qc4
        refine XS.go (s_aloadn rfl rfl rfl) ?_
        refine XS.go (s_getr rfl xf12_28 (LY.lt L0 (by decide)) (LY.k1262 L0) (by decide) rfl (LY.r1262_11 L0)) ?_
        refine XS.go (s_aloadn rfl rfl rfl) ?_
        refine XS.go (s_getie rfl xf12_224 (LY.lt L0 (by decide)) (LY.k1262 L0) (by decide) rfl rfl) ?_
        refine XS.go (s_ialde rfl (LY.lt L0 (by decide)) (LY.k1269 L0) (inLit (LY.n1269 L0) qk2.1 qk2.2 (by decide)) rfl) ?_
        refine XS.go (s_bipush (v := 11) rfl rfl) ?_
        refine r_icmp_ge (tgt := 50) rfl rfl (fun qc5 => ?_) (fun qc5 => ?_)
        · replace hf := xi_pos hf qc5
          refine XS.go (s_iconst (v := 0) rfl rfl) ?_
          cases hf
          exact XR.retz rfl rfl (by decide) (fun hret => ⟨_, hret, ⟨rfl, rfl⟩, L0⟩)
        · replace hf := xi_neg hf qc5
          refine XS.go (s_iconst (v := 1) rfl rfl) ?_
          refine XS.go (s_goto (tgt := 51) rfl rfl) ?_
          cases hf
          exact XR.retz rfl rfl (by decide) (fun hret => ⟨_, hret, ⟨rfl, rfl⟩, L0⟩)
def f_m_isName (h : XH) : Option (Int32 × XH) := (if ¬ (hi h 1262 14) = 0 then (some (0, h)) else (if 0 ≤ (hi h 1262 13) ∧ (hi h 1262 13) < nI 4001 then (if ¬ (hi h 1266 (Int32.toNatClampNeg (hi h 1262 13))) = 2 then (some (0, h)) else (if ¬ (hi h 1269 (Int32.toNatClampNeg (hi h 1262 13))) = (-1) then (some (0, h)) else (some (1, h)))) else none))
set_option maxRecDepth 20000 in
theorem kf_m_isName {l : Launch} {G : XG} {d : Nat} {h : XH} {r : Int32 × XH} (L0 : LY h) (hf : f_m_isName h = some r) : XC l G xEX12_isName d [.ref 1262] h (fun v h2 => (h2 = r.2 ∧ v = some (.int r.1)) ∧ LY r.2) := by
  refine XC.virt xvX12_isName (Nat.le_of_ble_eq_true rfl) ?_
  unfold f_m_isName at hf
  refine XR.norm (L3 := [some (.ref 1262)]) rfl ?_
  refine XS.go (s_aloadn rfl rfl rfl) ?_
  refine XS.go (s_getie rfl xf12_221 (LY.lt L0 (by decide)) (LY.k1262 L0) (by decide) rfl rfl) ?_
  refine r_if_ne (tgt := 37) rfl rfl (fun qc1 => ?_) (fun qc1 => ?_)
  · replace hf := xi_pos hf qc1
    refine XS.go (s_iconst (v := 0) rfl rfl) ?_
    cases hf
    exact XR.retz rfl rfl (by decide) (fun hret => ⟨_, hret, ⟨rfl, rfl⟩, L0⟩)
  · replace hf := xi_neg hf qc1
    refine XS.go (s_aloadn rfl rfl rfl) ?_
    refine XS.go (s_getr rfl xf12_19 (LY.lt L0 (by decide)) (LY.k1262 L0) (by decide) rfl (LY.r1262_8 L0)) ?_
    refine XS.go (s_aloadn rfl rfl rfl) ?_
    refine XS.go (s_getie rfl xf12_224 (LY.lt L0 (by decide)) (LY.k1262 L0) (by decide) rfl rfl) ?_
    replace hf := xi_none hf
    obtain ⟨qk2, hf⟩ := hf
    refine XS.go (s_ialde rfl (LY.lt L0 (by decide)) (LY.k1266 L0) (inLit (LY.n1266 L0) qk2.1 qk2.2 (by decide)) rfl) ?_
    refine XS.go (s_iconst (v := 2) rfl rfl) ?_
    refine r_icmp_ne (tgt := 37) rfl rfl (fun qc3 => ?_) (fun qc3 => ?_)
    · replace hf := xi_pos hf qc3
      refine XS.go (s_iconst (v := 0) rfl rfl) ?_
      cases hf
      exact XR.retz rfl rfl (by decide) (fun hret => ⟨_, hret, ⟨rfl, rfl⟩, L0⟩)
    · replace hf := xi_neg hf qc3
      refine XS.go (s_aloadn rfl rfl rfl) ?_
      refine XS.go (s_getr rfl xf12_28 (LY.lt L0 (by decide)) (LY.k1262 L0) (by decide) rfl (LY.r1262_11 L0)) ?_
      refine XS.go (s_aloadn rfl rfl rfl) ?_
      refine XS.go (s_getie rfl xf12_224 (LY.lt L0 (by decide)) (LY.k1262 L0) (by decide) rfl rfl) ?_
      refine XS.go (s_ialde rfl (LY.lt L0 (by decide)) (LY.k1269 L0) (inLit (LY.n1269 L0) qk2.1 qk2.2 (by decide)) rfl) ?_
      refine XS.go (s_iconst (v := (-1)) rfl rfl) ?_
      refine r_icmp_ne (tgt := 37) rfl rfl (fun qc4 => ?_) (fun qc4 => ?_)
      · replace hf := xi_pos hf qc4
        refine XS.go (s_iconst (v := 0) rfl rfl) ?_
        cases hf
        exact XR.retz rfl rfl (by decide) (fun hret => ⟨_, hret, ⟨rfl, rfl⟩, L0⟩)
      · replace hf := xi_neg hf qc4
        refine XS.go (s_iconst (v := 1) rfl rfl) ?_
        refine XS.go (s_goto (tgt := 38) rfl rfl) ?_
        cases hf
        exact XR.retz rfl rfl (by decide) (fun hret => ⟨_, hret, ⟨rfl, rfl⟩, L0⟩)
def f_m_take (h : XH) : Option (Unit × XH) := (if ¬ (hi h 1262 14) = 0 then (some ((), h)) else (some ((), (hsi h 1262 13 ((hi h 1262 13) + 1)))))
set_option maxRecDepth 20000 in
theorem kf_m_take {l : Launch} {G : XG} {d : Nat} {h : XH} {r : Unit × XH} (L0 : LY h) (hf : f_m_take h = some r) : XC l G xEX12_take d [.ref 1262] h (fun v h2 => (h2 = r.2 ∧ v = none) ∧ LY r.2) := by
  refine XC.virt xvX12_take (Nat.le_of_ble_eq_true rfl) ?_
  unfold f_m_take at hf
  refine XR.norm (L3 := [some (.ref 1262)]) rfl ?_
  refine XS.go (s_aloadn rfl rfl rfl) ?_
  refine XS.go (s_getie rfl xf12_221 (LY.lt L0 (by decide)) (LY.k1262 L0) (by decide) rfl rfl) ?_
  refine r_if_ne (tgt := 17) rfl rfl (fun qc1 => ?_) (fun qc1 => ?_)
  · replace hf := xi_pos hf qc1
    cases hf
    exact XR.retv rfl rfl (fun hret => ⟨_, hret, ⟨rfl, rfl⟩, L0⟩)
  · replace hf := xi_neg hf qc1
    refine XS.go (s_aloadn rfl rfl rfl) ?_
    refine XS.go (s_dup rfl rfl) ?_
    refine XS.go (s_getie rfl xf12_224 (LY.lt L0 (by decide)) (LY.k1262 L0) (by decide) rfl rfl) ?_
    refine XS.go (s_iconst (v := 1) rfl rfl) ?_
    refine XS.go (s_iadd rfl) ?_
    refine XS.go (s_puti rfl xf12_224 (LY.lt L0 (by decide)) (LY.k1262 L0) (by decide) rfl (Or.inl rfl)) ?_
    cases hf
    exact XR.retv rfl rfl (fun hret => ⟨_, hret, ⟨rfl, rfl⟩, (by simp only [LY_si, LY_sj]; exact L0)⟩)
def b_m_sign_19 (h : XH) : Option (Unit × XH) := (Option.bind (f_m_take h) fun r1 => (some ((), r1.2)))
set_option maxRecDepth 20000 in
theorem kb_m_sign_19 {l : Launch} {G : XG} {d : Nat} {h : XH} {r : Unit × XH} (L0 : LY h) (hf : b_m_sign_19 h = some r) : XR l G xEX12_sign (d + 2) (19, [some (.ref 1262), none], [], h) (fun C => ∃ v, xRet xEX12_sign C v ∧ (C.2.2.2 = r.2 ∧ v = none) ∧ LY r.2) := by
  unfold b_m_sign_19 at hf
  refine XS.go (s_aloadn rfl rfl rfl) ?_
  replace hf := xb_some hf
  obtain ⟨r1, e2, hf⟩ := hf
  refine r_callv rfl xvX12_take xm12_240 (kf_m_take (d := d) L0 e2) (LY.lt L0 (by decide)) (LY.k1262 L0) (by decide) rfl rfl (dl0 (by decide)) (by decide) (Nat.le_of_ble_eq_true rfl) ?_
  rintro _ _ ⟨⟨rfl, rfl⟩, L3⟩
  cases hf
  exact XR.retv rfl rfl (fun hret => ⟨_, hret, ⟨rfl, rfl⟩, L3⟩)
def f_m_sign (a0 : Int32) (h : XH) : Option (Unit × XH) := (if ¬ (hi h 1262 14) = 0 then (b_m_sign_19 h) else (Option.bind (f_m_isSign a0 h) fun r5 => (if ¬ r5.1 = 0 then (b_m_sign_19 r5.2) else (Option.bind (f_m_misfit r5.2) fun r9 => (b_m_sign_19 r9.2)))))
set_option maxRecDepth 20000 in
theorem kf_m_sign {l : Launch} {G : XG} {d : Nat} {a0 : Int32} {h : XH} {r : Unit × XH} (L0 : LY h) (hf : f_m_sign a0 h = some r) : XC l G xEX12_sign (d + 2) [.ref 1262, .int a0] h (fun v h2 => (h2 = r.2 ∧ v = none) ∧ LY r.2) := by
  refine XC.virt xvX12_sign (Nat.le_of_ble_eq_true rfl) ?_
  unfold f_m_sign at hf
  refine XR.norm (L3 := [some (.ref 1262), some (.int a0)]) rfl ?_
  refine XS.go (s_aloadn rfl rfl rfl) ?_
  refine XS.go (s_getie rfl xf12_221 (LY.lt L0 (by decide)) (LY.k1262 L0) (by decide) rfl rfl) ?_
  refine r_if_ne (tgt := 19) rfl rfl (fun qc4 => ?_) (fun qc4 => ?_)
  · replace hf := xi_pos hf qc4
    exact XR.forget (L2 := [some (.ref 1262), none]) ⟨rfl, trivial⟩ (kb_m_sign_19 L0 hf)
  · replace hf := xi_neg hf qc4
    refine XS.go (s_aloadn rfl rfl rfl) ?_
    refine XS.go (s_iloadn rfl rfl rfl) ?_
    replace hf := xb_some hf
    obtain ⟨r5, e6, hf⟩ := hf
    refine r_callv rfl xvX12_isSign xm12_234 (kf_m_isSign (d := d) L0 e6) (LY.lt L0 (by decide)) (LY.k1262 L0) (by decide) rfl rfl (dl0 (by decide)) (by decide) (Nat.le_of_ble_eq_true rfl) ?_
    rintro _ _ ⟨⟨rfl, rfl⟩, L7⟩
    refine r_if_ne (tgt := 19) rfl rfl (fun qc8 => ?_) (fun qc8 => ?_)
    · replace hf := xi_pos hf qc8
      exact XR.forget (L2 := [some (.ref 1262), none]) ⟨rfl, trivial⟩ (kb_m_sign_19 L7 hf)
    · replace hf := xi_neg hf qc8
      refine XS.go (s_aloadn rfl rfl rfl) ?_
      replace hf := xb_some hf
      obtain ⟨r9, e10, hf⟩ := hf
      refine r_callv rfl xvX12_misfit xm12_237 (kf_m_misfit (d := d) L7 e10) (LY.lt L7 (by decide)) (LY.k1262 L7) (by decide) rfl rfl (dl (by decide)) (by decide) (Nat.le_of_ble_eq_true rfl) ?_
      rintro _ _ ⟨⟨rfl, rfl⟩, L11⟩
      exact XR.forget (L2 := [some (.ref 1262), none]) ⟨rfl, trivial⟩ (kb_m_sign_19 L11 hf)
def b_m_name_18 (h : XH) : Option (Unit × XH) := (Option.bind (f_m_take h) fun r1 => (some ((), r1.2)))
set_option maxRecDepth 20000 in
theorem kb_m_name_18 {l : Launch} {G : XG} {d : Nat} {h : XH} {r : Unit × XH} (L0 : LY h) (hf : b_m_name_18 h = some r) : XR l G xEX12_name (d + 2) (18, [some (.ref 1262)], [], h) (fun C => ∃ v, xRet xEX12_name C v ∧ (C.2.2.2 = r.2 ∧ v = none) ∧ LY r.2) := by
  unfold b_m_name_18 at hf
  refine XS.go (s_aloadn rfl rfl rfl) ?_
  replace hf := xb_some hf
  obtain ⟨r1, e2, hf⟩ := hf
  refine r_callv rfl xvX12_take xm12_240 (kf_m_take (d := d) L0 e2) (LY.lt L0 (by decide)) (LY.k1262 L0) (by decide) rfl rfl (dl0 (by decide)) (by decide) (Nat.le_of_ble_eq_true rfl) ?_
  rintro _ _ ⟨⟨rfl, rfl⟩, L3⟩
  cases hf
  exact XR.retv rfl rfl (fun hret => ⟨_, hret, ⟨rfl, rfl⟩, L3⟩)
def f_m_name (h : XH) : Option (Unit × XH) := (if ¬ (hi h 1262 14) = 0 then (b_m_name_18 h) else (Option.bind (f_m_isName h) fun r5 => (if ¬ r5.1 = 0 then (b_m_name_18 r5.2) else (Option.bind (f_m_misfit r5.2) fun r9 => (b_m_name_18 r9.2)))))
set_option maxRecDepth 20000 in
theorem kf_m_name {l : Launch} {G : XG} {d : Nat} {h : XH} {r : Unit × XH} (L0 : LY h) (hf : f_m_name h = some r) : XC l G xEX12_name (d + 2) [.ref 1262] h (fun v h2 => (h2 = r.2 ∧ v = none) ∧ LY r.2) := by
  refine XC.virt xvX12_name (Nat.le_of_ble_eq_true rfl) ?_
  unfold f_m_name at hf
  refine XR.norm (L3 := [some (.ref 1262)]) rfl ?_
  refine XS.go (s_aloadn rfl rfl rfl) ?_
  refine XS.go (s_getie rfl xf12_221 (LY.lt L0 (by decide)) (LY.k1262 L0) (by decide) rfl rfl) ?_
  refine r_if_ne (tgt := 18) rfl rfl (fun qc4 => ?_) (fun qc4 => ?_)
  · replace hf := xi_pos hf qc4
    exact XR.forget (L2 := [some (.ref 1262)]) ⟨rfl, trivial⟩ (kb_m_name_18 L0 hf)
  · replace hf := xi_neg hf qc4
    refine XS.go (s_aloadn rfl rfl rfl) ?_
    replace hf := xb_some hf
    obtain ⟨r5, e6, hf⟩ := hf
    refine r_callv rfl xvX12_isName xm12_243 (kf_m_isName (d := d) L0 e6) (LY.lt L0 (by decide)) (LY.k1262 L0) (by decide) rfl rfl (dl0 (by decide)) (by decide) (Nat.le_of_ble_eq_true rfl) ?_
    rintro _ _ ⟨⟨rfl, rfl⟩, L7⟩
    refine r_if_ne (tgt := 18) rfl rfl (fun qc8 => ?_) (fun qc8 => ?_)
    · replace hf := xi_pos hf qc8
      exact XR.forget (L2 := [some (.ref 1262)]) ⟨rfl, trivial⟩ (kb_m_name_18 L7 hf)
    · replace hf := xi_neg hf qc8
      refine XS.go (s_aloadn rfl rfl rfl) ?_
      replace hf := xb_some hf
      obtain ⟨r9, e10, hf⟩ := hf
      refine r_callv rfl xvX12_misfit xm12_237 (kf_m_misfit (d := d) L7 e10) (LY.lt L7 (by decide)) (LY.k1262 L7) (by decide) rfl rfl (dl (by decide)) (by decide) (Nat.le_of_ble_eq_true rfl) ?_
      rintro _ _ ⟨⟨rfl, rfl⟩, L11⟩
      exact XR.forget (L2 := [some (.ref 1262)]) ⟨rfl, trivial⟩ (kb_m_name_18 L11 hf)
def s_m_definition_2 (K2 : Int32 → Int32 → XH → Option (Int32 × XH)) (x1 : Int32) (x2 : Int32) (h : XH) : Option (Int32 × XH) := (if (hi h 1262 16) ≤ x2 then (some ((-1), h)) else (if 0 ≤ x2 ∧ x2 < nI 40 then (Option.bind (f_m_sameName (hi h 1270 (Int32.toNatClampNeg x2)) x1 h) fun r3 => (if r3.1 = 0 then (K2 x1 (x2 + 1) r3.2) else (some (x2, r3.2)))) else none))
set_option maxRecDepth 20000 in
theorem ks_m_definition_2 {l : Launch} {G : XG} {d : Nat} {K2 : Int32 → Int32 → XH → Option (Int32 × XH)} {x1 : Int32} {x2 : Int32} {h : XH} {r : Int32 × XH} (hK2 : ∀ (x1 : Int32) (x2 : Int32) (h : XH), LY h → K2 x1 x2 h = some r → XR l G xEX12_definition (d + 1) (2, [some (.ref 1262), some (.int x1), some (.int x2)], [], h) (fun C => ∃ v, xRet xEX12_definition C v ∧ (C.2.2.2 = r.2 ∧ v = some (.int r.1)) ∧ LY r.2)) (L0 : LY h) (hf : s_m_definition_2 K2 x1 x2 h = some r) : XR l G xEX12_definition (d + 1) (2, [some (.ref 1262), some (.int x1), some (.int x2)], [], h) (fun C => ∃ v, xRet xEX12_definition C v ∧ (C.2.2.2 = r.2 ∧ v = some (.int r.1)) ∧ LY r.2) := by
  unfold s_m_definition_2 at hf
  refine XS.go (s_iloadn rfl rfl rfl) ?_
  refine XS.go (s_aloadn rfl rfl rfl) ?_
  refine XS.go (s_getie rfl xf12_247 (LY.lt L0 (by decide)) (LY.k1262 L0) (by decide) rfl rfl) ?_
  refine r_icmp_ge (tgt := 32) rfl rfl (fun qc1 => ?_) (fun qc1 => ?_)
  · replace hf := xi_pos hf qc1
    refine XS.go (s_iconst (v := (-1)) rfl rfl) ?_
    cases hf
    exact XR.reti rfl rfl (fun hret => ⟨_, hret, ⟨rfl, rfl⟩, L0⟩)
  · replace hf := xi_neg hf qc1
    refine XS.go (s_aloadn rfl rfl rfl) ?_
    refine XS.go (s_aloadn rfl rfl rfl) ?_
    refine XS.go (s_getr rfl xf12_31 (LY.lt L0 (by decide)) (LY.k1262 L0) (by decide) rfl (LY.r1262_17 L0)) ?_
    refine XS.go (s_iloadn rfl rfl rfl) ?_
    replace hf := xi_none hf
    obtain ⟨qk2, hf⟩ := hf
    refine XS.go (s_ialde rfl (LY.lt L0 (by decide)) (LY.k1270 L0) (inLit (LY.n1270 L0) qk2.1 qk2.2 (by decide)) rfl) ?_
    refine XS.go (s_iloadn rfl rfl rfl) ?_
    replace hf := xb_some hf
    obtain ⟨r3, e4, hf⟩ := hf
    refine r_callv rfl xvX12_sameName xm12_250 (kf_m_sameName (d := d) L0 e4) (LY.lt L0 (by decide)) (LY.k1262 L0) (by decide) rfl rfl (dl0 (by decide)) (by decide) (Nat.le_of_ble_eq_true rfl) ?_
    rintro _ _ ⟨⟨rfl, rfl⟩, L5⟩
    refine r_if_eq (tgt := 26) rfl rfl (fun qc6 => ?_) (fun qc6 => ?_)
    · replace hf := xi_pos hf qc6
      refine XS.go (XS.lcl (L3 := [some (.ref 1262), some (.int x1), some (.int (x2 + 1))]) (s_inc rfl rfl (Nat.le_of_ble_eq_true rfl)) rfl) ?_
      refine XS.go (s_goto (tgt := 2) rfl rfl) ?_
      exact XR.forget (L2 := [some (.ref 1262), some (.int x1), some (.int (x2 + 1))]) ⟨rfl, ⟨rfl, ⟨rfl, trivial⟩⟩⟩ (hK2 x1 (x2 + 1) _ L5 hf)
    · replace hf := xi_neg hf qc6
      refine XS.go (s_iloadn rfl rfl rfl) ?_
      cases hf
      exact XR.reti rfl rfl (fun hret => ⟨_, hret, ⟨rfl, rfl⟩, L5⟩)
def b_m_definition_2 : Nat → Int32 → Int32 → XH → Option (Int32 × XH)
  | 0, _, _, _ => none
  | n + 1, x1, x2, h => s_m_definition_2 (b_m_definition_2 n) x1 x2 h
theorem kb_m_definition_2 {l : Launch} {G : XG} {d : Nat} {n : Nat} {x1 : Int32} {x2 : Int32} {h : XH} {r : Int32 × XH} (L0 : LY h) (hf : b_m_definition_2 n x1 x2 h = some r) : XR l G xEX12_definition (d + 1) (2, [some (.ref 1262), some (.int x1), some (.int x2)], [], h) (fun C => ∃ v, xRet xEX12_definition C v ∧ (C.2.2.2 = r.2 ∧ v = some (.int r.1)) ∧ LY r.2) := by
  induction n generalizing x1 x2 h with
  | zero => cases hf
  | succ n ih => exact ks_m_definition_2 (fun x1 x2 h L0 hf => ih (h := h) (x1 := x1) (x2 := x2) L0 hf) L0 hf
def f_m_definition (a0 : Int32) (h : XH) : Option (Int32 × XH) := (b_m_definition_2 100000 a0 0 h)
set_option maxRecDepth 20000 in
theorem kf_m_definition {l : Launch} {G : XG} {d : Nat} {a0 : Int32} {h : XH} {r : Int32 × XH} (L0 : LY h) (hf : f_m_definition a0 h = some r) : XC l G xEX12_definition (d + 1) [.ref 1262, .int a0] h (fun v h2 => (h2 = r.2 ∧ v = some (.int r.1)) ∧ LY r.2) := by
  refine XC.virt xvX12_definition (Nat.le_of_ble_eq_true rfl) ?_
  unfold f_m_definition at hf
  refine XR.norm (L3 := [some (.ref 1262), some (.int a0), none]) rfl ?_
  refine XS.go (s_iconst (v := 0) rfl rfl) ?_
  refine XS.go (XS.lcl (L3 := [some (.ref 1262), some (.int a0), some (.int 0)]) (s_istoren rfl rfl (Nat.le_of_ble_eq_true rfl)) rfl) ?_
  exact XR.forget (L2 := [some (.ref 1262), some (.int a0), some (.int 0)]) ⟨rfl, ⟨rfl, ⟨rfl, trivial⟩⟩⟩ (kb_m_definition_2 L0 hf)
def b_m_fresh_62 (x3 : Int32) (x4 : Int32) (h : XH) : Option (Unit × XH) := (if ¬ (hi h 1262 14) = 0 then (some ((), h)) else (if ¬ x3 = x4 then (some ((), h)) else (Option.bind (f_m_flaw 4 h) fun r3 => (some ((), r3.2)))))
set_option maxRecDepth 20000 in
theorem kb_m_fresh_62 {l : Launch} {G : XG} {d : Nat} {x3 : Int32} {x4 : Int32} {h : XH} {r : Unit × XH} (L0 : LY h) (hf : b_m_fresh_62 x3 x4 h = some r) : XR l G xEX12_fresh (d + 2) (62, [some (.ref 1262), none, none, some (.int x3), some (.int x4), none], [], h) (fun C => ∃ v, xRet xEX12_fresh C v ∧ (C.2.2.2 = r.2 ∧ v = none) ∧ LY r.2) := by
  unfold b_m_fresh_62 at hf
  refine XS.go (s_aloadn rfl rfl rfl) ?_
  refine XS.go (s_getie rfl xf12_221 (LY.lt L0 (by decide)) (LY.k1262 L0) (by decide) rfl rfl) ?_
  refine r_if_ne (tgt := 80) rfl rfl (fun qc1 => ?_) (fun qc1 => ?_)
  · replace hf := xi_pos hf qc1
    cases hf
    exact XR.retv rfl rfl (fun hret => ⟨_, hret, ⟨rfl, rfl⟩, L0⟩)
  · replace hf := xi_neg hf qc1
    refine XS.go (s_iloadn rfl rfl rfl) ?_
    refine XS.go (s_iload rfl rfl) ?_
    refine r_icmp_ne (tgt := 80) rfl rfl (fun qc2 => ?_) (fun qc2 => ?_)
    · replace hf := xi_pos hf qc2
      cases hf
      exact XR.retv rfl rfl (fun hret => ⟨_, hret, ⟨rfl, rfl⟩, L0⟩)
    · replace hf := xi_neg hf qc2
      refine XS.go (s_aloadn rfl rfl rfl) ?_
      refine XS.go (s_iconst (v := 4) rfl rfl) ?_
      replace hf := xb_some hf
      obtain ⟨r3, e4, hf⟩ := hf
      refine r_callv rfl xvX12_flaw xm12_230 (kf_m_flaw (d := d) L0 e4) (LY.lt L0 (by decide)) (LY.k1262 L0) (by decide) rfl rfl (dl0 (by decide)) (by decide) (Nat.le_of_ble_eq_true rfl) ?_
      rintro _ _ ⟨⟨rfl, rfl⟩, L5⟩
      cases hf
      exact XR.retv rfl rfl (fun hret => ⟨_, hret, ⟨rfl, rfl⟩, L5⟩)
def b_m_fresh_56 (K21 : Nat → Int32 → Int32 → Int32 → Int32 → XH → Option (Unit × XH)) (x1 : Nat) (x2 : Int32) (x3 : Int32) (x4 : Int32) (x5 : Int32) (h : XH) : Option (Unit × XH) := (K21 x1 x2 x3 x4 (x5 + 1) h)
set_option maxRecDepth 20000 in
theorem kb_m_fresh_56 {l : Launch} {G : XG} {d : Nat} {K21 : Nat → Int32 → Int32 → Int32 → Int32 → XH → Option (Unit × XH)} {x1 : Nat} {x2 : Int32} {x3 : Int32} {x4 : Int32} {x5 : Int32} {h : XH} {r : Unit × XH} (hK21 : ∀ (x1 : Nat) (x2 : Int32) (x3 : Int32) (x4 : Int32) (x5 : Int32) (h : XH), LY h → K21 x1 x2 x3 x4 x5 h = some r → XR l G xEX12_fresh (d + 2) (21, [some (.ref 1262), some (.ref x1), some (.int x2), some (.int x3), some (.int x4), some (.int x5)], [], h) (fun C => ∃ v, xRet xEX12_fresh C v ∧ (C.2.2.2 = r.2 ∧ v = none) ∧ LY r.2)) (L0 : LY h) (hf : b_m_fresh_56 K21 x1 x2 x3 x4 x5 h = some r) : XR l G xEX12_fresh (d + 2) (56, [some (.ref 1262), some (.ref x1), some (.int x2), some (.int x3), some (.int x4), some (.int x5)], [], h) (fun C => ∃ v, xRet xEX12_fresh C v ∧ (C.2.2.2 = r.2 ∧ v = none) ∧ LY r.2) := by
  unfold b_m_fresh_56 at hf
  refine XS.go (XS.lcl (L3 := [some (.ref 1262), some (.ref x1), some (.int x2), some (.int x3), some (.int x4), some (.int (x5 + 1))]) (s_inc rfl rfl (Nat.le_of_ble_eq_true rfl)) rfl) ?_
  refine XS.go (s_goto (tgt := 21) rfl rfl) ?_
  exact XR.forget (L2 := [some (.ref 1262), some (.ref x1), some (.int x2), some (.int x3), some (.int x4), some (.int (x5 + 1))]) ⟨rfl, ⟨rfl, ⟨rfl, ⟨rfl, ⟨rfl, ⟨rfl, trivial⟩⟩⟩⟩⟩⟩ (hK21 x1 x2 x3 x4 (x5 + 1) _ L0 hf)
def s_m_fresh_21 (K21 : Nat → Int32 → Int32 → Int32 → Int32 → XH → Option (Unit × XH)) (x1 : Nat) (x2 : Int32) (x3 : Int32) (x4 : Int32) (x5 : Int32) (h : XH) : Option (Unit × XH) := (if x3 ≤ x5 then (b_m_fresh_62 x3 x4 h) else (if ¬ (hi h 1262 14) = 0 then (b_m_fresh_62 x3 x4 h) else (if x1 < hz h ∧ hk h x1 = 100 then (if 0 ≤ (x2 + x5) ∧ (x2 + x5) < nI (hn h x1) ∧ (hn h x1) < 2 ^ 31 then (Option.bind (f_m_sameName (hi h x1 (Int32.toNatClampNeg (x2 + x5))) (hi h 1262 13) h) fun r10 => (if r10.1 = 0 then (b_m_fresh_56 K21 x1 x2 x3 x4 x5 r10.2) else (Option.bind (f_m_flaw 3 r10.2) fun r14 => (b_m_fresh_56 K21 x1 x2 x3 x4 x5 r14.2)))) else none) else none)))
set_option maxRecDepth 20000 in
theorem ks_m_fresh_21 {l : Launch} {G : XG} {d : Nat} {K21 : Nat → Int32 → Int32 → Int32 → Int32 → XH → Option (Unit × XH)} {x1 : Nat} {x2 : Int32} {x3 : Int32} {x4 : Int32} {x5 : Int32} {h : XH} {r : Unit × XH} (hK21 : ∀ (x1 : Nat) (x2 : Int32) (x3 : Int32) (x4 : Int32) (x5 : Int32) (h : XH), LY h → K21 x1 x2 x3 x4 x5 h = some r → XR l G xEX12_fresh (d + 2) (21, [some (.ref 1262), some (.ref x1), some (.int x2), some (.int x3), some (.int x4), some (.int x5)], [], h) (fun C => ∃ v, xRet xEX12_fresh C v ∧ (C.2.2.2 = r.2 ∧ v = none) ∧ LY r.2)) (L0 : LY h) (hf : s_m_fresh_21 K21 x1 x2 x3 x4 x5 h = some r) : XR l G xEX12_fresh (d + 2) (21, [some (.ref 1262), some (.ref x1), some (.int x2), some (.int x3), some (.int x4), some (.int x5)], [], h) (fun C => ∃ v, xRet xEX12_fresh C v ∧ (C.2.2.2 = r.2 ∧ v = none) ∧ LY r.2) := by
  unfold s_m_fresh_21 at hf
  refine XS.go (s_iload rfl rfl) ?_
  refine XS.go (s_iloadn rfl rfl rfl) ?_
  refine r_icmp_ge (tgt := 62) rfl rfl (fun qc6 => ?_) (fun qc6 => ?_)
  · replace hf := xi_pos hf qc6
    exact XR.forget (L2 := [some (.ref 1262), none, none, some (.int x3), some (.int x4), none]) ⟨rfl, ⟨rfl, ⟨rfl, trivial⟩⟩⟩ (kb_m_fresh_62 L0 hf)
  · replace hf := xi_neg hf qc6
    refine XS.go (s_aloadn rfl rfl rfl) ?_
    refine XS.go (s_getie rfl xf12_221 (LY.lt L0 (by decide)) (LY.k1262 L0) (by decide) rfl rfl) ?_
    refine r_if_ne (tgt := 62) rfl rfl (fun qc7 => ?_) (fun qc7 => ?_)
    · replace hf := xi_pos hf qc7
      exact XR.forget (L2 := [some (.ref 1262), none, none, some (.int x3), some (.int x4), none]) ⟨rfl, ⟨rfl, ⟨rfl, trivial⟩⟩⟩ (kb_m_fresh_62 L0 hf)
    · replace hf := xi_neg hf qc7
      refine XS.go (s_aloadn rfl rfl rfl) ?_
      refine XS.go (s_aloadn rfl rfl rfl) ?_
      refine XS.go (s_iloadn rfl rfl rfl) ?_
      refine XS.go (s_iload rfl rfl) ?_
      refine XS.go (s_iadd rfl) ?_
      replace hf := xi_none hf
      obtain ⟨qk8, hf⟩ := hf
      replace hf := xi_none hf
      obtain ⟨qk9, hf⟩ := hf
      refine XS.go (s_ialde rfl qk8.1 qk8.2 (inLit (N := hn h x1) rfl qk9.1 qk9.2.1 qk9.2.2) rfl) ?_
      refine XS.go (s_aloadn rfl rfl rfl) ?_
      refine XS.go (s_getie rfl xf12_224 (LY.lt L0 (by decide)) (LY.k1262 L0) (by decide) rfl rfl) ?_
      replace hf := xb_some hf
      obtain ⟨r10, e11, hf⟩ := hf
      refine r_callv rfl xvX12_sameName xm12_250 (kf_m_sameName (d := d) L0 e11) (LY.lt L0 (by decide)) (LY.k1262 L0) (by decide) rfl rfl (dl0 (by decide)) (by decide) (Nat.le_of_ble_eq_true rfl) ?_
      rintro _ _ ⟨⟨rfl, rfl⟩, L12⟩
      refine r_if_eq (tgt := 56) rfl rfl (fun qc13 => ?_) (fun qc13 => ?_)
      · replace hf := xi_pos hf qc13
        exact XR.forget (L2 := [some (.ref 1262), some (.ref x1), some (.int x2), some (.int x3), some (.int x4), some (.int x5)]) ⟨rfl, ⟨rfl, ⟨rfl, ⟨rfl, ⟨rfl, ⟨rfl, trivial⟩⟩⟩⟩⟩⟩ (kb_m_fresh_56 hK21 L12 hf)
      · replace hf := xi_neg hf qc13
        refine XS.go (s_aloadn rfl rfl rfl) ?_
        refine XS.go (s_iconst (v := 3) rfl rfl) ?_
        replace hf := xb_some hf
        obtain ⟨r14, e15, hf⟩ := hf
        refine r_callv rfl xvX12_flaw xm12_230 (kf_m_flaw (d := d) L12 e15) (LY.lt L12 (by decide)) (LY.k1262 L12) (by decide) rfl rfl (dl0 (by decide)) (by decide) (Nat.le_of_ble_eq_true rfl) ?_
        rintro _ _ ⟨⟨rfl, rfl⟩, L16⟩
        exact XR.forget (L2 := [some (.ref 1262), some (.ref x1), some (.int x2), some (.int x3), some (.int x4), some (.int x5)]) ⟨rfl, ⟨rfl, ⟨rfl, ⟨rfl, ⟨rfl, ⟨rfl, trivial⟩⟩⟩⟩⟩⟩ (kb_m_fresh_56 hK21 L16 hf)
def b_m_fresh_21 : Nat → Nat → Int32 → Int32 → Int32 → Int32 → XH → Option (Unit × XH)
  | 0, _, _, _, _, _, _ => none
  | n + 1, x1, x2, x3, x4, x5, h => s_m_fresh_21 (b_m_fresh_21 n) x1 x2 x3 x4 x5 h
theorem kb_m_fresh_21 {l : Launch} {G : XG} {d : Nat} {n : Nat} {x1 : Nat} {x2 : Int32} {x3 : Int32} {x4 : Int32} {x5 : Int32} {h : XH} {r : Unit × XH} (L0 : LY h) (hf : b_m_fresh_21 n x1 x2 x3 x4 x5 h = some r) : XR l G xEX12_fresh (d + 2) (21, [some (.ref 1262), some (.ref x1), some (.int x2), some (.int x3), some (.int x4), some (.int x5)], [], h) (fun C => ∃ v, xRet xEX12_fresh C v ∧ (C.2.2.2 = r.2 ∧ v = none) ∧ LY r.2) := by
  induction n generalizing x1 x2 x3 x4 x5 h with
  | zero => cases hf
  | succ n ih => exact ks_m_fresh_21 (fun x1 x2 x3 x4 x5 h L0 hf => ih (h := h) (x1 := x1) (x2 := x2) (x3 := x3) (x4 := x4) (x5 := x5) L0 hf) L0 hf
def b_m_fresh_18 (x1 : Nat) (x2 : Int32) (x3 : Int32) (x4 : Int32) (h : XH) : Option (Unit × XH) := (b_m_fresh_21 100000 x1 x2 x3 x4 0 h)
set_option maxRecDepth 20000 in
theorem kb_m_fresh_18 {l : Launch} {G : XG} {d : Nat} {x1 : Nat} {x2 : Int32} {x3 : Int32} {x4 : Int32} {h : XH} {r : Unit × XH} (L0 : LY h) (hf : b_m_fresh_18 x1 x2 x3 x4 h = some r) : XR l G xEX12_fresh (d + 2) (18, [some (.ref 1262), some (.ref x1), some (.int x2), some (.int x3), some (.int x4), none], [], h) (fun C => ∃ v, xRet xEX12_fresh C v ∧ (C.2.2.2 = r.2 ∧ v = none) ∧ LY r.2) := by
  unfold b_m_fresh_18 at hf
  refine XS.go (s_iconst (v := 0) rfl rfl) ?_
  refine XS.go (XS.lcl (L3 := [some (.ref 1262), some (.ref x1), some (.int x2), some (.int x3), some (.int x4), some (.int 0)]) (s_istore rfl (Nat.le_of_ble_eq_true rfl)) rfl) ?_
  exact XR.forget (L2 := [some (.ref 1262), some (.ref x1), some (.int x2), some (.int x3), some (.int x4), some (.int 0)]) ⟨rfl, ⟨rfl, ⟨rfl, ⟨rfl, ⟨rfl, ⟨rfl, trivial⟩⟩⟩⟩⟩⟩ (kb_m_fresh_21 L0 hf)
def f_m_fresh (a0 : Nat) (a1 : Int32) (a2 : Int32) (a3 : Int32) (h : XH) : Option (Unit × XH) := (if ¬ (hi h 1262 14) = 0 then (b_m_fresh_18 a0 a1 a2 a3 h) else (Option.bind (f_m_isName h) fun r18 => (if ¬ r18.1 = 0 then (b_m_fresh_18 a0 a1 a2 a3 r18.2) else (Option.bind (f_m_misfit r18.2) fun r22 => (b_m_fresh_18 a0 a1 a2 a3 r22.2)))))
set_option maxRecDepth 20000 in
theorem kf_m_fresh {l : Launch} {G : XG} {d : Nat} {a0 : Nat} {a1 : Int32} {a2 : Int32} {a3 : Int32} {h : XH} {r : Unit × XH} (L0 : LY h) (hf : f_m_fresh a0 a1 a2 a3 h = some r) : XC l G xEX12_fresh (d + 2) [.ref 1262, .ref a0, .int a1, .int a2, .int a3] h (fun v h2 => (h2 = r.2 ∧ v = none) ∧ LY r.2) := by
  refine XC.virt xvX12_fresh (Nat.le_of_ble_eq_true rfl) ?_
  unfold f_m_fresh at hf
  refine XR.norm (L3 := [some (.ref 1262), some (.ref a0), some (.int a1), some (.int a2), some (.int a3), none]) rfl ?_
  refine XS.go (s_aloadn rfl rfl rfl) ?_
  refine XS.go (s_getie rfl xf12_221 (LY.lt L0 (by decide)) (LY.k1262 L0) (by decide) rfl rfl) ?_
  refine r_if_ne (tgt := 18) rfl rfl (fun qc17 => ?_) (fun qc17 => ?_)
  · replace hf := xi_pos hf qc17
    exact XR.forget (L2 := [some (.ref 1262), some (.ref a0), some (.int a1), some (.int a2), some (.int a3), none]) ⟨rfl, ⟨rfl, ⟨rfl, ⟨rfl, ⟨rfl, trivial⟩⟩⟩⟩⟩ (kb_m_fresh_18 L0 hf)
  · replace hf := xi_neg hf qc17
    refine XS.go (s_aloadn rfl rfl rfl) ?_
    replace hf := xb_some hf
    obtain ⟨r18, e19, hf⟩ := hf
    refine r_callv rfl xvX12_isName xm12_243 (kf_m_isName (d := d) L0 e19) (LY.lt L0 (by decide)) (LY.k1262 L0) (by decide) rfl rfl (dl0 (by decide)) (by decide) (Nat.le_of_ble_eq_true rfl) ?_
    rintro _ _ ⟨⟨rfl, rfl⟩, L20⟩
    refine r_if_ne (tgt := 18) rfl rfl (fun qc21 => ?_) (fun qc21 => ?_)
    · replace hf := xi_pos hf qc21
      exact XR.forget (L2 := [some (.ref 1262), some (.ref a0), some (.int a1), some (.int a2), some (.int a3), none]) ⟨rfl, ⟨rfl, ⟨rfl, ⟨rfl, ⟨rfl, trivial⟩⟩⟩⟩⟩ (kb_m_fresh_18 L20 hf)
    · replace hf := xi_neg hf qc21
      refine XS.go (s_aloadn rfl rfl rfl) ?_
      replace hf := xb_some hf
      obtain ⟨r22, e23, hf⟩ := hf
      refine r_callv rfl xvX12_misfit xm12_237 (kf_m_misfit (d := d) L20 e23) (LY.lt L20 (by decide)) (LY.k1262 L20) (by decide) rfl rfl (dl (by decide)) (by decide) (Nat.le_of_ble_eq_true rfl) ?_
      rintro _ _ ⟨⟨rfl, rfl⟩, L24⟩
      exact XR.forget (L2 := [some (.ref 1262), some (.ref a0), some (.int a1), some (.int a2), some (.int a3), none]) ⟨rfl, ⟨rfl, ⟨rfl, ⟨rfl, ⟨rfl, trivial⟩⟩⟩⟩⟩ (kb_m_fresh_18 L24 hf)
def f_m_ask (a0 : Int32) (a1 : Int32) (a2 : Int32) (h : XH) : Option (Unit × XH) := (if ¬ (hi h 1262 14) = 0 then (some ((), h)) else (if 0 ≤ (hi h 1262 46) ∧ (hi h 1262 46) < nI 400 then (some ((), (hsi (hsi (hsi (hsi h 1295 (Int32.toNatClampNeg (hi h 1262 46)) a0) 1296 (Int32.toNatClampNeg (hi h 1262 46)) a1) 1297 (Int32.toNatClampNeg (hi h 1262 46)) a2) 1262 46 ((hi h 1262 46) + 1)))) else none))
set_option maxRecDepth 20000 in
theorem kf_m_ask {l : Launch} {G : XG} {d : Nat} {a0 : Int32} {a1 : Int32} {a2 : Int32} {h : XH} {r : Unit × XH} (L0 : LY h) (hf : f_m_ask a0 a1 a2 h = some r) : XC l G xEX12_ask d [.ref 1262, .int a0, .int a1, .int a2] h (fun v h2 => (h2 = r.2 ∧ v = none) ∧ LY r.2) := by
  refine XC.virt xvX12_ask (Nat.le_of_ble_eq_true rfl) ?_
  unfold f_m_ask at hf
  refine XR.norm (L3 := [some (.ref 1262), some (.int a0), some (.int a1), some (.int a2)]) rfl ?_
  refine XS.go (s_aloadn rfl rfl rfl) ?_
  refine XS.go (s_getie rfl xf12_221 (LY.lt L0 (by decide)) (LY.k1262 L0) (by decide) rfl rfl) ?_
  refine r_if_ne (tgt := 47) rfl rfl (fun qc1 => ?_) (fun qc1 => ?_)
  · replace hf := xi_pos hf qc1
    cases hf
    exact XR.retv rfl rfl (fun hret => ⟨_, hret, ⟨rfl, rfl⟩, L0⟩)
  · replace hf := xi_neg hf qc1
    refine XS.go (s_aloadn rfl rfl rfl) ?_
    refine XS.go (s_getr rfl xf12_107 (LY.lt L0 (by decide)) (LY.k1262 L0) (by decide) rfl (LY.r1262_47 L0)) ?_
    refine XS.go (s_aloadn rfl rfl rfl) ?_
    refine XS.go (s_getie rfl xf12_263 (LY.lt L0 (by decide)) (LY.k1262 L0) (by decide) rfl rfl) ?_
    refine XS.go (s_iloadn rfl rfl rfl) ?_
    replace hf := xi_none hf
    obtain ⟨qk2, hf⟩ := hf
    refine XS.go (s_iast rfl (LY.lt L0 (by decide)) (LY.k1295 L0) (inLit (LY.n1295 L0) qk2.1 qk2.2 (by decide))) ?_
    refine XS.go (s_aloadn rfl rfl rfl) ?_
    refine XS.go (s_getr rfl xf12_110 (LY.lt (by simp only [LY_si, LY_sj]; exact L0) (by decide)) (LY.k1262 (by simp only [LY_si, LY_sj]; exact L0)) (by decide) rfl (LY.r1262_48 (by simp only [LY_si, LY_sj]; exact L0))) ?_
    refine XS.go (s_aloadn rfl rfl rfl) ?_
    refine XS.go (s_getie rfl xf12_263 (LY.lt (by simp only [LY_si, LY_sj]; exact L0) (by decide)) (LY.k1262 (by simp only [LY_si, LY_sj]; exact L0)) (by decide) rfl (hi_hsi_na (by decide))) ?_
    refine XS.go (s_iloadn rfl rfl rfl) ?_
    refine XS.go (s_iast rfl (LY.lt (by simp only [LY_si, LY_sj]; exact L0) (by decide)) (LY.k1296 (by simp only [LY_si, LY_sj]; exact L0)) (inLit (LY.n1296 (by simp only [LY_si, LY_sj]; exact L0)) qk2.1 qk2.2 (by decide))) ?_
    refine XS.go (s_aloadn rfl rfl rfl) ?_
    refine XS.go (s_getr rfl xf12_113 (LY.lt (by simp only [LY_si, LY_sj]; exact L0) (by decide)) (LY.k1262 (by simp only [LY_si, LY_sj]; exact L0)) (by decide) rfl (LY.r1262_49 (by simp only [LY_si, LY_sj]; exact L0))) ?_
    refine XS.go (s_aloadn rfl rfl rfl) ?_
    refine XS.go (s_getie rfl xf12_263 (LY.lt (by simp only [LY_si, LY_sj]; exact L0) (by decide)) (LY.k1262 (by simp only [LY_si, LY_sj]; exact L0)) (by decide) rfl ((hi_hsi_na (by decide)).trans (hi_hsi_na (by decide)))) ?_
    refine XS.go (s_iloadn rfl rfl rfl) ?_
    refine XS.go (s_iast rfl (LY.lt (by simp only [LY_si, LY_sj]; exact L0) (by decide)) (LY.k1297 (by simp only [LY_si, LY_sj]; exact L0)) (inLit (LY.n1297 (by simp only [LY_si, LY_sj]; exact L0)) qk2.1 qk2.2 (by decide))) ?_
    refine XS.go (s_aloadn rfl rfl rfl) ?_
    refine XS.go (s_dup rfl rfl) ?_
    refine XS.go (s_getie rfl xf12_263 (LY.lt (by simp only [LY_si, LY_sj]; exact L0) (by decide)) (LY.k1262 (by simp only [LY_si, LY_sj]; exact L0)) (by decide) rfl ((hi_hsi_na (by decide)).trans ((hi_hsi_na (by decide)).trans (hi_hsi_na (by decide))))) ?_
    refine XS.go (s_iconst (v := 1) rfl rfl) ?_
    refine XS.go (s_iadd rfl) ?_
    refine XS.go (s_puti rfl xf12_263 (LY.lt (by simp only [LY_si, LY_sj]; exact L0) (by decide)) (LY.k1262 (by simp only [LY_si, LY_sj]; exact L0)) (by decide) rfl (Or.inl rfl)) ?_
    cases hf
    exact XR.retv rfl rfl (fun hret => ⟨_, hret, ⟨rfl, rfl⟩, (by simp only [LY_si, LY_sj]; exact L0)⟩)
def b_m_bytesOf_30 (h : XH) : Option (Int32 × XH) := (some (4, h))
set_option maxRecDepth 20000 in
theorem kb_m_bytesOf_30 {l : Launch} {G : XG} {d : Nat} {h : XH} {r : Int32 × XH} (L0 : LY h) (hf : b_m_bytesOf_30 h = some r) : XR l G xEX12_bytesOf d (30, [none], [], h) (fun C => ∃ v, xRet xEX12_bytesOf C v ∧ (C.2.2.2 = r.2 ∧ v = some (.int r.1)) ∧ LY r.2) := by
  unfold b_m_bytesOf_30 at hf
  refine XS.go (s_iconst (v := 4) rfl rfl) ?_
  refine XS.go (s_goto (tgt := 36) rfl rfl) ?_
  cases hf
  exact XR.reti rfl rfl (fun hret => ⟨_, hret, ⟨rfl, rfl⟩, L0⟩)
def f_m_bytesOf (a0 : Int32) (h : XH) : Option (Int32 × XH) := (if 2 < a0 then (if 4 < a0 then (if a0 ≤ 6 then (b_m_bytesOf_30 h) else (if ¬ a0 = 9 then (some (8, h)) else (b_m_bytesOf_30 h))) else (some (2, h))) else (some (1, h)))
set_option maxRecDepth 20000 in
theorem kf_m_bytesOf {l : Launch} {G : XG} {d : Nat} {a0 : Int32} {h : XH} {r : Int32 × XH} (L0 : LY h) (hf : f_m_bytesOf a0 h = some r) : XC l G xEX12_bytesOf d [.int a0] h (fun v h2 => (h2 = r.2 ∧ v = some (.int r.1)) ∧ LY r.2) := by
  refine XC.stat xsX12_bytesOf (Nat.le_of_ble_eq_true rfl) ?_
  unfold f_m_bytesOf at hf
  refine XR.norm (L3 := [some (.int a0)]) rfl ?_
  refine XS.go (s_iloadn rfl rfl rfl) ?_
  refine XS.go (s_iconst (v := 2) rfl rfl) ?_
  refine r_icmp_gt (tgt := 9) rfl rfl (fun qc1 => ?_) (fun qc1 => ?_)
  · replace hf := xi_pos hf qc1
    refine XS.go (s_iloadn rfl rfl rfl) ?_
    refine XS.go (s_iconst (v := 4) rfl rfl) ?_
    refine r_icmp_gt (tgt := 18) rfl rfl (fun qc2 => ?_) (fun qc2 => ?_)
    · replace hf := xi_pos hf qc2
      refine XS.go (s_iloadn rfl rfl rfl) ?_
      refine XS.go (s_bipush (v := 6) rfl rfl) ?_
      refine r_icmp_le (tgt := 30) rfl rfl (fun qc3 => ?_) (fun qc3 => ?_)
      · replace hf := xi_pos hf qc3
        exact XR.forget (L2 := [none]) trivial (kb_m_bytesOf_30 L0 hf)
      · replace hf := xi_neg hf qc3
        refine XS.go (s_iloadn rfl rfl rfl) ?_
        refine XS.go (s_bipush (v := 9) rfl rfl) ?_
        refine r_icmp_ne (tgt := 34) rfl rfl (fun qc4 => ?_) (fun qc4 => ?_)
        · replace hf := xi_pos hf qc4
          refine XS.go (s_bipush (v := 8) rfl rfl) ?_
          cases hf
          exact XR.reti rfl rfl (fun hret => ⟨_, hret, ⟨rfl, rfl⟩, L0⟩)
        · replace hf := xi_neg hf qc4
          exact XR.forget (L2 := [none]) trivial (kb_m_bytesOf_30 L0 hf)
    · replace hf := xi_neg hf qc2
      refine XS.go (s_iconst (v := 2) rfl rfl) ?_
      refine XS.go (s_goto (tgt := 36) rfl rfl) ?_
      cases hf
      exact XR.reti rfl rfl (fun hret => ⟨_, hret, ⟨rfl, rfl⟩, L0⟩)
  · replace hf := xi_neg hf qc1
    refine XS.go (s_iconst (v := 1) rfl rfl) ?_
    refine XS.go (s_goto (tgt := 36) rfl rfl) ?_
    cases hf
    exact XR.reti rfl rfl (fun hret => ⟨_, hret, ⟨rfl, rfl⟩, L0⟩)
def b_m_flatten_109 (K20 : Int32 → Int32 → Int32 → Int32 → Int32 → XH → Option (Unit × XH)) (x1 : Int32) (x2 : Int32) (x3 : Int32) (x4 : Int32) (x5 : Int32) (y1 : Int32) (y2 : Int32) (y3 : Int32) (h : XH) : Option (Unit × XH) := (if 0 ≤ y1 ∧ y1 < nI 1536 then (if 0 ≤ x1 ∧ x1 < nI 12 then (K20 x1 x2 x3 x4 (x5 + 1) (hsi (hsi h 1282 (Int32.toNatClampNeg y1) (y2 + y3)) 1280 (Int32.toNatClampNeg x1) ((hi h 1280 (Int32.toNatClampNeg x1)) + 1))) else none) else none)
set_option maxRecDepth 20000 in
theorem kb_m_flatten_109 {l : Launch} {G : XG} {d : Nat} {K20 : Int32 → Int32 → Int32 → Int32 → Int32 → XH → Option (Unit × XH)} {x1 : Int32} {x2 : Int32} {x3 : Int32} {x4 : Int32} {x5 : Int32} {y1 : Int32} {y2 : Int32} {y3 : Int32} {h : XH} {r : Unit × XH} (hK20 : ∀ (x1 : Int32) (x2 : Int32) (x3 : Int32) (x4 : Int32) (x5 : Int32) (h : XH), LY h → K20 x1 x2 x3 x4 x5 h = some r → XR l G xEX12_flatten d (20, [some (.ref 1262), some (.int x1), some (.int x2), some (.int x3), some (.int x4), some (.int x5), none], [], h) (fun C => ∃ v, xRet xEX12_flatten C v ∧ (C.2.2.2 = r.2 ∧ v = none) ∧ LY r.2)) (L0 : LY h) (hf : b_m_flatten_109 K20 x1 x2 x3 x4 x5 y1 y2 y3 h = some r) : XR l G xEX12_flatten d (109, [some (.ref 1262), some (.int x1), some (.int x2), some (.int x3), some (.int x4), some (.int x5), none], [(.int y3), (.int y2), (.int y1), (.ref 1282)], h) (fun C => ∃ v, xRet xEX12_flatten C v ∧ (C.2.2.2 = r.2 ∧ v = none) ∧ LY r.2) := by
  unfold b_m_flatten_109 at hf
  refine XS.go (s_iadd rfl) ?_
  replace hf := xi_none hf
  obtain ⟨qk1, hf⟩ := hf
  refine XS.go (s_iast rfl (LY.lt L0 (by decide)) (LY.k1282 L0) (inLit (LY.n1282 L0) qk1.1 qk1.2 (by decide))) ?_
  refine XS.go (s_aloadn rfl rfl rfl) ?_
  refine XS.go (s_getr rfl xf12_61 (LY.lt (by simp only [LY_si, LY_sj]; exact L0) (by decide)) (LY.k1262 (by simp only [LY_si, LY_sj]; exact L0)) (by decide) rfl (LY.r1262_28 (by simp only [LY_si, LY_sj]; exact L0))) ?_
  refine XS.go (s_iloadn rfl rfl rfl) ?_
  refine XS.go (s_dup2 rfl rfl rfl) ?_
  replace hf := xi_none hf
  obtain ⟨qk2, hf⟩ := hf
  refine XS.go (s_ialde rfl (LY.lt (by simp only [LY_si, LY_sj]; exact L0) (by decide)) (LY.k1280 (by simp only [LY_si, LY_sj]; exact L0)) (inLit (LY.n1280 (by simp only [LY_si, LY_sj]; exact L0)) qk2.1 qk2.2 (by decide)) (hi_hsi_na (by decide))) ?_
  refine XS.go (s_iconst (v := 1) rfl rfl) ?_
  refine XS.go (s_iadd rfl) ?_
  refine XS.go (s_iast rfl (LY.lt (by simp only [LY_si, LY_sj]; exact L0) (by decide)) (LY.k1280 (by simp only [LY_si, LY_sj]; exact L0)) (inLit (LY.n1280 (by simp only [LY_si, LY_sj]; exact L0)) qk2.1 qk2.2 (by decide))) ?_
  refine XS.go (XS.lcl (L3 := [some (.ref 1262), some (.int x1), some (.int x2), some (.int x3), some (.int x4), some (.int (x5 + 1)), none]) (s_inc rfl rfl (Nat.le_of_ble_eq_true rfl)) rfl) ?_
  refine XS.go (s_goto (tgt := 20) rfl rfl) ?_
  exact XR.forget (L2 := [some (.ref 1262), some (.int x1), some (.int x2), some (.int x3), some (.int x4), some (.int (x5 + 1)), none]) ⟨rfl, ⟨rfl, ⟨rfl, ⟨rfl, ⟨rfl, ⟨rfl, trivial⟩⟩⟩⟩⟩⟩ (hK20 x1 x2 x3 x4 (x5 + 1) _ (by simp only [LY_si, LY_sj]; exact L0) hf)
def b_m_flatten_74 (K20 : Int32 → Int32 → Int32 → Int32 → Int32 → XH → Option (Unit × XH)) (x1 : Int32) (x2 : Int32) (x3 : Int32) (x4 : Int32) (x5 : Int32) (x6 : Int32) (y1 : Int32) (y2 : Int32) (h : XH) : Option (Unit × XH) := (if 0 ≤ y1 ∧ y1 < nI 1536 then (if 0 ≤ x2 ∧ x2 < nI 144 then (if ¬ x3 = (-1) then (if 0 ≤ ((128 * x3) + x5) ∧ ((128 * x3) + x5) < nI 1536 then (b_m_flatten_109 K20 x1 x2 x3 x4 x5 x6 (hi h 1279 (Int32.toNatClampNeg x2)) (hi h 1282 (Int32.toNatClampNeg ((128 * x3) + x5))) (hsi h 1281 (Int32.toNatClampNeg y1) y2)) else none) else (b_m_flatten_109 K20 x1 x2 x3 x4 x5 x6 (hi h 1279 (Int32.toNatClampNeg x2)) 0 (hsi h 1281 (Int32.toNatClampNeg y1) y2))) else none) else none)
set_option maxRecDepth 20000 in
theorem kb_m_flatten_74 {l : Launch} {G : XG} {d : Nat} {K20 : Int32 → Int32 → Int32 → Int32 → Int32 → XH → Option (Unit × XH)} {x1 : Int32} {x2 : Int32} {x3 : Int32} {x4 : Int32} {x5 : Int32} {x6 : Int32} {y1 : Int32} {y2 : Int32} {h : XH} {r : Unit × XH} (hK20 : ∀ (x1 : Int32) (x2 : Int32) (x3 : Int32) (x4 : Int32) (x5 : Int32) (h : XH), LY h → K20 x1 x2 x3 x4 x5 h = some r → XR l G xEX12_flatten d (20, [some (.ref 1262), some (.int x1), some (.int x2), some (.int x3), some (.int x4), some (.int x5), none], [], h) (fun C => ∃ v, xRet xEX12_flatten C v ∧ (C.2.2.2 = r.2 ∧ v = none) ∧ LY r.2)) (L0 : LY h) (hf : b_m_flatten_74 K20 x1 x2 x3 x4 x5 x6 y1 y2 h = some r) : XR l G xEX12_flatten d (74, [some (.ref 1262), some (.int x1), some (.int x2), some (.int x3), some (.int x4), some (.int x5), some (.int x6)], [(.int y2), (.int y1), (.ref 1281)], h) (fun C => ∃ v, xRet xEX12_flatten C v ∧ (C.2.2.2 = r.2 ∧ v = none) ∧ LY r.2) := by
  unfold b_m_flatten_74 at hf
  replace hf := xi_none hf
  obtain ⟨qk3, hf⟩ := hf
  refine XS.go (s_iast rfl (LY.lt L0 (by decide)) (LY.k1281 L0) (inLit (LY.n1281 L0) qk3.1 qk3.2 (by decide))) ?_
  refine XS.go (s_aloadn rfl rfl rfl) ?_
  refine XS.go (s_getr rfl xf12_67 (LY.lt (by simp only [LY_si, LY_sj]; exact L0) (by decide)) (LY.k1262 (by simp only [LY_si, LY_sj]; exact L0)) (by decide) rfl (LY.r1262_30 (by simp only [LY_si, LY_sj]; exact L0))) ?_
  refine XS.go (s_iload rfl rfl) ?_
  refine XS.go (s_aloadn rfl rfl rfl) ?_
  refine XS.go (s_getr rfl xf12_58 (LY.lt (by simp only [LY_si, LY_sj]; exact L0) (by decide)) (LY.k1262 (by simp only [LY_si, LY_sj]; exact L0)) (by decide) rfl (LY.r1262_27 (by simp only [LY_si, LY_sj]; exact L0))) ?_
  refine XS.go (s_iloadn rfl rfl rfl) ?_
  replace hf := xi_none hf
  obtain ⟨qk4, hf⟩ := hf
  refine XS.go (s_ialde rfl (LY.lt (by simp only [LY_si, LY_sj]; exact L0) (by decide)) (LY.k1279 (by simp only [LY_si, LY_sj]; exact L0)) (inLit (LY.n1279 (by simp only [LY_si, LY_sj]; exact L0)) qk4.1 qk4.2 (by decide)) (hi_hsi_na (by decide))) ?_
  refine XS.go (s_iloadn rfl rfl rfl) ?_
  refine XS.go (s_iconst (v := (-1)) rfl rfl) ?_
  refine r_icmp_ne (tgt := 96) rfl rfl (fun qc5 => ?_) (fun qc5 => ?_)
  · replace hf := xi_pos hf qc5
    refine XS.go (s_aloadn rfl rfl rfl) ?_
    refine XS.go (s_getr rfl xf12_67 (LY.lt (by simp only [LY_si, LY_sj]; exact L0) (by decide)) (LY.k1262 (by simp only [LY_si, LY_sj]; exact L0)) (by decide) rfl (LY.r1262_30 (by simp only [LY_si, LY_sj]; exact L0))) ?_
    refine XS.go (s_sipush (v := 128) rfl rfl) ?_
    refine XS.go (s_iloadn rfl rfl rfl) ?_
    refine XS.go (s_imul rfl) ?_
    refine XS.go (s_iload rfl rfl) ?_
    refine XS.go (s_iadd rfl) ?_
    replace hf := xi_none hf
    obtain ⟨qk6, hf⟩ := hf
    refine XS.go (s_ialde rfl (LY.lt (by simp only [LY_si, LY_sj]; exact L0) (by decide)) (LY.k1282 (by simp only [LY_si, LY_sj]; exact L0)) (inLit (LY.n1282 (by simp only [LY_si, LY_sj]; exact L0)) qk6.1 qk6.2 (by decide)) (hi_hsi_na (by decide))) ?_
    exact XR.forget (L2 := [some (.ref 1262), some (.int x1), some (.int x2), some (.int x3), some (.int x4), some (.int x5), none]) ⟨rfl, ⟨rfl, ⟨rfl, ⟨rfl, ⟨rfl, ⟨rfl, trivial⟩⟩⟩⟩⟩⟩ (kb_m_flatten_109 hK20 (by simp only [LY_si, LY_sj]; exact L0) hf)
  · replace hf := xi_neg hf qc5
    refine XS.go (s_iconst (v := 0) rfl rfl) ?_
    refine XS.go (s_goto (tgt := 109) rfl rfl) ?_
    exact XR.forget (L2 := [some (.ref 1262), some (.int x1), some (.int x2), some (.int x3), some (.int x4), some (.int x5), none]) ⟨rfl, ⟨rfl, ⟨rfl, ⟨rfl, ⟨rfl, ⟨rfl, trivial⟩⟩⟩⟩⟩⟩ (kb_m_flatten_109 hK20 (by simp only [LY_si, LY_sj]; exact L0) hf)
def s_m_flatten_20 (K20 : Int32 → Int32 → Int32 → Int32 → Int32 → XH → Option (Unit × XH)) (x1 : Int32) (x2 : Int32) (x3 : Int32) (x4 : Int32) (x5 : Int32) (h : XH) : Option (Unit × XH) := (if x4 ≤ x5 then (some ((), h)) else (if 0 ≤ x1 ∧ x1 < nI 12 then (if ¬ x3 = (-1) then (if 0 ≤ ((128 * x3) + x5) ∧ ((128 * x3) + x5) < nI 1536 then (b_m_flatten_74 K20 x1 x2 x3 x4 x5 ((128 * x1) + (hi h 1280 (Int32.toNatClampNeg x1))) ((128 * x1) + (hi h 1280 (Int32.toNatClampNeg x1))) (hi h 1281 (Int32.toNatClampNeg ((128 * x3) + x5))) h) else none) else (if 0 ≤ x2 ∧ x2 < nI 144 then (b_m_flatten_74 K20 x1 x2 x3 x4 x5 ((128 * x1) + (hi h 1280 (Int32.toNatClampNeg x1))) ((128 * x1) + (hi h 1280 (Int32.toNatClampNeg x1))) (hi h 1278 (Int32.toNatClampNeg x2)) h) else none)) else none))
set_option maxRecDepth 20000 in
theorem ks_m_flatten_20 {l : Launch} {G : XG} {d : Nat} {K20 : Int32 → Int32 → Int32 → Int32 → Int32 → XH → Option (Unit × XH)} {x1 : Int32} {x2 : Int32} {x3 : Int32} {x4 : Int32} {x5 : Int32} {h : XH} {r : Unit × XH} (hK20 : ∀ (x1 : Int32) (x2 : Int32) (x3 : Int32) (x4 : Int32) (x5 : Int32) (h : XH), LY h → K20 x1 x2 x3 x4 x5 h = some r → XR l G xEX12_flatten d (20, [some (.ref 1262), some (.int x1), some (.int x2), some (.int x3), some (.int x4), some (.int x5), none], [], h) (fun C => ∃ v, xRet xEX12_flatten C v ∧ (C.2.2.2 = r.2 ∧ v = none) ∧ LY r.2)) (L0 : LY h) (hf : s_m_flatten_20 K20 x1 x2 x3 x4 x5 h = some r) : XR l G xEX12_flatten d (20, [some (.ref 1262), some (.int x1), some (.int x2), some (.int x3), some (.int x4), some (.int x5), none], [], h) (fun C => ∃ v, xRet xEX12_flatten C v ∧ (C.2.2.2 = r.2 ∧ v = none) ∧ LY r.2) := by
  unfold s_m_flatten_20 at hf
  refine XS.go (s_iload rfl rfl) ?_
  refine XS.go (s_iload rfl rfl) ?_
  refine r_icmp_ge (tgt := 127) rfl rfl (fun qc7 => ?_) (fun qc7 => ?_)
  · replace hf := xi_pos hf qc7
    cases hf
    exact XR.retv rfl rfl (fun hret => ⟨_, hret, ⟨rfl, rfl⟩, L0⟩)
  · replace hf := xi_neg hf qc7
    refine XS.go (s_sipush (v := 128) rfl rfl) ?_
    refine XS.go (s_iloadn rfl rfl rfl) ?_
    refine XS.go (s_imul rfl) ?_
    refine XS.go (s_aloadn rfl rfl rfl) ?_
    refine XS.go (s_getr rfl xf12_61 (LY.lt L0 (by decide)) (LY.k1262 L0) (by decide) rfl (LY.r1262_28 L0)) ?_
    refine XS.go (s_iloadn rfl rfl rfl) ?_
    replace hf := xi_none hf
    obtain ⟨qk8, hf⟩ := hf
    refine XS.go (s_ialde rfl (LY.lt L0 (by decide)) (LY.k1280 L0) (inLit (LY.n1280 L0) qk8.1 qk8.2 (by decide)) rfl) ?_
    refine XS.go (s_iadd rfl) ?_
    refine XS.go (XS.lcl (L3 := [some (.ref 1262), some (.int x1), some (.int x2), some (.int x3), some (.int x4), some (.int x5), some (.int ((128 * x1) + (hi h 1280 (Int32.toNatClampNeg x1))))]) (s_istore rfl (Nat.le_of_ble_eq_true rfl)) rfl) ?_
    refine XS.go (s_aloadn rfl rfl rfl) ?_
    refine XS.go (s_getr rfl xf12_64 (LY.lt L0 (by decide)) (LY.k1262 L0) (by decide) rfl (LY.r1262_29 L0)) ?_
    refine XS.go (s_iload rfl rfl) ?_
    refine XS.go (s_iloadn rfl rfl rfl) ?_
    refine XS.go (s_iconst (v := (-1)) rfl rfl) ?_
    refine r_icmp_ne (tgt := 61) rfl rfl (fun qc9 => ?_) (fun qc9 => ?_)
    · replace hf := xi_pos hf qc9
      refine XS.go (s_aloadn rfl rfl rfl) ?_
      refine XS.go (s_getr rfl xf12_64 (LY.lt L0 (by decide)) (LY.k1262 L0) (by decide) rfl (LY.r1262_29 L0)) ?_
      refine XS.go (s_sipush (v := 128) rfl rfl) ?_
      refine XS.go (s_iloadn rfl rfl rfl) ?_
      refine XS.go (s_imul rfl) ?_
      refine XS.go (s_iload rfl rfl) ?_
      refine XS.go (s_iadd rfl) ?_
      replace hf := xi_none hf
      obtain ⟨qk10, hf⟩ := hf
      refine XS.go (s_ialde rfl (LY.lt L0 (by decide)) (LY.k1281 L0) (inLit (LY.n1281 L0) qk10.1 qk10.2 (by decide)) rfl) ?_
      exact XR.forget (L2 := [some (.ref 1262), some (.int x1), some (.int x2), some (.int x3), some (.int x4), some (.int x5), some (.int ((128 * x1) + (hi h 1280 (Int32.toNatClampNeg x1))))]) ⟨rfl, ⟨rfl, ⟨rfl, ⟨rfl, ⟨rfl, ⟨rfl, ⟨rfl, trivial⟩⟩⟩⟩⟩⟩⟩ (kb_m_flatten_74 hK20 L0 hf)
    · replace hf := xi_neg hf qc9
      refine XS.go (s_aloadn rfl rfl rfl) ?_
      refine XS.go (s_getr rfl xf12_55 (LY.lt L0 (by decide)) (LY.k1262 L0) (by decide) rfl (LY.r1262_26 L0)) ?_
      refine XS.go (s_iloadn rfl rfl rfl) ?_
      replace hf := xi_none hf
      obtain ⟨qk11, hf⟩ := hf
      refine XS.go (s_ialde rfl (LY.lt L0 (by decide)) (LY.k1278 L0) (inLit (LY.n1278 L0) qk11.1 qk11.2 (by decide)) rfl) ?_
      refine XS.go (s_goto (tgt := 74) rfl rfl) ?_
      exact XR.forget (L2 := [some (.ref 1262), some (.int x1), some (.int x2), some (.int x3), some (.int x4), some (.int x5), some (.int ((128 * x1) + (hi h 1280 (Int32.toNatClampNeg x1))))]) ⟨rfl, ⟨rfl, ⟨rfl, ⟨rfl, ⟨rfl, ⟨rfl, ⟨rfl, trivial⟩⟩⟩⟩⟩⟩⟩ (kb_m_flatten_74 hK20 L0 hf)
def b_m_flatten_20 : Nat → Int32 → Int32 → Int32 → Int32 → Int32 → XH → Option (Unit × XH)
  | 0, _, _, _, _, _, _ => none
  | n + 1, x1, x2, x3, x4, x5, h => s_m_flatten_20 (b_m_flatten_20 n) x1 x2 x3 x4 x5 h
theorem kb_m_flatten_20 {l : Launch} {G : XG} {d : Nat} {n : Nat} {x1 : Int32} {x2 : Int32} {x3 : Int32} {x4 : Int32} {x5 : Int32} {h : XH} {r : Unit × XH} (L0 : LY h) (hf : b_m_flatten_20 n x1 x2 x3 x4 x5 h = some r) : XR l G xEX12_flatten d (20, [some (.ref 1262), some (.int x1), some (.int x2), some (.int x3), some (.int x4), some (.int x5), none], [], h) (fun C => ∃ v, xRet xEX12_flatten C v ∧ (C.2.2.2 = r.2 ∧ v = none) ∧ LY r.2) := by
  induction n generalizing x1 x2 x3 x4 x5 h with
  | zero => cases hf
  | succ n ih => exact ks_m_flatten_20 (fun x1 x2 x3 x4 x5 h L0 hf => ih (h := h) (x1 := x1) (x2 := x2) (x3 := x3) (x4 := x4) (x5 := x5) L0 hf) L0 hf
def b_m_flatten_15 (x1 : Int32) (x2 : Int32) (x3 : Int32) (y0 : Int32) (h : XH) : Option (Unit × XH) := (b_m_flatten_20 100000 x1 x2 x3 y0 0 h)
set_option maxRecDepth 20000 in
theorem kb_m_flatten_15 {l : Launch} {G : XG} {d : Nat} {x1 : Int32} {x2 : Int32} {x3 : Int32} {y0 : Int32} {h : XH} {r : Unit × XH} (L0 : LY h) (hf : b_m_flatten_15 x1 x2 x3 y0 h = some r) : XR l G xEX12_flatten d (15, [some (.ref 1262), some (.int x1), some (.int x2), some (.int x3), none, none, none], [(.int y0)], h) (fun C => ∃ v, xRet xEX12_flatten C v ∧ (C.2.2.2 = r.2 ∧ v = none) ∧ LY r.2) := by
  unfold b_m_flatten_15 at hf
  refine XS.go (XS.lcl (L3 := [some (.ref 1262), some (.int x1), some (.int x2), some (.int x3), some (.int y0), none, none]) (s_istore rfl (Nat.le_of_ble_eq_true rfl)) rfl) ?_
  refine XS.go (s_iconst (v := 0) rfl rfl) ?_
  refine XS.go (XS.lcl (L3 := [some (.ref 1262), some (.int x1), some (.int x2), some (.int x3), some (.int y0), some (.int 0), none]) (s_istore rfl (Nat.le_of_ble_eq_true rfl)) rfl) ?_
  exact XR.forget (L2 := [some (.ref 1262), some (.int x1), some (.int x2), some (.int x3), some (.int y0), some (.int 0), none]) ⟨rfl, ⟨rfl, ⟨rfl, ⟨rfl, ⟨rfl, ⟨rfl, trivial⟩⟩⟩⟩⟩⟩ (kb_m_flatten_20 L0 hf)
def f_m_flatten (a0 : Int32) (a1 : Int32) (a2 : Int32) (h : XH) : Option (Unit × XH) := (if ¬ a2 = (-1) then (if 0 ≤ a2 ∧ a2 < nI 12 then (b_m_flatten_15 a0 a1 a2 (hi h 1280 (Int32.toNatClampNeg a2)) h) else none) else (b_m_flatten_15 a0 a1 a2 1 h))
set_option maxRecDepth 20000 in
theorem kf_m_flatten {l : Launch} {G : XG} {d : Nat} {a0 : Int32} {a1 : Int32} {a2 : Int32} {h : XH} {r : Unit × XH} (L0 : LY h) (hf : f_m_flatten a0 a1 a2 h = some r) : XC l G xEX12_flatten d [.ref 1262, .int a0, .int a1, .int a2] h (fun v h2 => (h2 = r.2 ∧ v = none) ∧ LY r.2) := by
  refine XC.virt xvX12_flatten (Nat.le_of_ble_eq_true rfl) ?_
  unfold f_m_flatten at hf
  refine XR.norm (L3 := [some (.ref 1262), some (.int a0), some (.int a1), some (.int a2), none, none, none]) rfl ?_
  refine XS.go (s_iloadn rfl rfl rfl) ?_
  refine XS.go (s_iconst (v := (-1)) rfl rfl) ?_
  refine r_icmp_ne (tgt := 9) rfl rfl (fun qc12 => ?_) (fun qc12 => ?_)
  · replace hf := xi_pos hf qc12
    refine XS.go (s_aloadn rfl rfl rfl) ?_
    refine XS.go (s_getr rfl xf12_61 (LY.lt L0 (by decide)) (LY.k1262 L0) (by decide) rfl (LY.r1262_28 L0)) ?_
    refine XS.go (s_iloadn rfl rfl rfl) ?_
    replace hf := xi_none hf
    obtain ⟨qk13, hf⟩ := hf
    refine XS.go (s_ialde rfl (LY.lt L0 (by decide)) (LY.k1280 L0) (inLit (LY.n1280 L0) qk13.1 qk13.2 (by decide)) rfl) ?_
    exact XR.forget (L2 := [some (.ref 1262), some (.int a0), some (.int a1), some (.int a2), none, none, none]) ⟨rfl, ⟨rfl, ⟨rfl, ⟨rfl, trivial⟩⟩⟩⟩ (kb_m_flatten_15 L0 hf)
  · replace hf := xi_neg hf qc12
    refine XS.go (s_iconst (v := 1) rfl rfl) ?_
    refine XS.go (s_goto (tgt := 15) rfl rfl) ?_
    exact XR.forget (L2 := [some (.ref 1262), some (.int a0), some (.int a1), some (.int a2), none, none, none]) ⟨rfl, ⟨rfl, ⟨rfl, ⟨rfl, trivial⟩⟩⟩⟩ (kb_m_flatten_15 L0 hf)
def f_m_upTo (a0 : Int32) (a1 : Int32) (h : XH) : Option (Int32 × XH) := (if ¬ a1 = 0 then (some (((((a0 + a1) - 1) / a1) * a1), h)) else none)
set_option maxRecDepth 20000 in
theorem kf_m_upTo {l : Launch} {G : XG} {d : Nat} {a0 : Int32} {a1 : Int32} {h : XH} {r : Int32 × XH} (L0 : LY h) (hf : f_m_upTo a0 a1 h = some r) : XC l G xEX12_upTo d [.int a0, .int a1] h (fun v h2 => (h2 = r.2 ∧ v = some (.int r.1)) ∧ LY r.2) := by
  refine XC.stat xsX12_upTo (Nat.le_of_ble_eq_true rfl) ?_
  unfold f_m_upTo at hf
  refine XR.norm (L3 := [some (.int a0), some (.int a1)]) rfl ?_
  refine XS.go (s_iloadn rfl rfl rfl) ?_
  refine XS.go (s_iloadn rfl rfl rfl) ?_
  refine XS.go (s_iadd rfl) ?_
  refine XS.go (s_iconst (v := 1) rfl rfl) ?_
  refine XS.go (s_isub rfl) ?_
  refine XS.go (s_iloadn rfl rfl rfl) ?_
  replace hf := xi_none hf
  obtain ⟨qk1, hf⟩ := hf
  refine XS.go (s_idiv qk1 rfl) ?_
  refine XS.go (s_iloadn rfl rfl rfl) ?_
  refine XS.go (s_imul rfl) ?_
  cases hf
  exact XR.reti rfl rfl (fun hret => ⟨_, hret, ⟨rfl, rfl⟩, L0⟩)
def b_m_structType_258 (h : XH) : Option (Unit × XH) := (Option.bind (f_m_take h) fun r1 => (some ((), r1.2)))
set_option maxRecDepth 20000 in
theorem kb_m_structType_258 {l : Launch} {G : XG} {d : Nat} {h : XH} {r : Unit × XH} (L0 : LY h) (hf : b_m_structType_258 h = some r) : XR l G xEX12_structType (d + 2) (258, [some (.ref 1262), none, none, none, none, none], [], h) (fun C => ∃ v, xRet xEX12_structType C v ∧ (C.2.2.2 = r.2 ∧ v = none) ∧ LY r.2) := by
  unfold b_m_structType_258 at hf
  refine XS.go (s_aloadn rfl rfl rfl) ?_
  replace hf := xb_some hf
  obtain ⟨r1, e2, hf⟩ := hf
  refine r_callv rfl xvX12_take xm12_240 (kf_m_take (d := d) L0 e2) (LY.lt L0 (by decide)) (LY.k1262 L0) (by decide) rfl rfl (dl0 (by decide)) (by decide) (Nat.le_of_ble_eq_true rfl) ?_
  rintro _ _ ⟨⟨rfl, rfl⟩, L3⟩
  cases hf
  exact XR.retv rfl rfl (fun hret => ⟨_, hret, ⟨rfl, rfl⟩, L3⟩)
def b_m_structType_238 (x1 : Int32) (x2 : Int32) (x3 : Int32) (y1 : Int32) (y2 : Int32) (h : XH) : Option (Unit × XH) := (if 0 ≤ y1 ∧ y1 < nI 12 then (if 0 ≤ x1 ∧ x1 < nI 12 then (if 128 < (hi h 1274 (Int32.toNatClampNeg x1)) then (b_m_structType_258 (hsi h 1275 (Int32.toNatClampNeg y1) y2)) else (Option.bind (f_m_flatten x1 x2 x3 (hsi h 1275 (Int32.toNatClampNeg y1) y2)) fun r7 => (b_m_structType_258 r7.2))) else none) else none)
set_option maxRecDepth 20000 in
theorem kb_m_structType_238 {l : Launch} {G : XG} {d : Nat} {x1 : Int32} {x2 : Int32} {x3 : Int32} {y1 : Int32} {y2 : Int32} {h : XH} {r : Unit × XH} (L0 : LY h) (hf : b_m_structType_238 x1 x2 x3 y1 y2 h = some r) : XR l G xEX12_structType (d + 2) (238, [some (.ref 1262), some (.int x1), some (.int x2), some (.int x3), none, none], [(.int y2), (.int y1), (.ref 1275)], h) (fun C => ∃ v, xRet xEX12_structType C v ∧ (C.2.2.2 = r.2 ∧ v = none) ∧ LY r.2) := by
  unfold b_m_structType_238 at hf
  replace hf := xi_none hf
  obtain ⟨qk4, hf⟩ := hf
  refine XS.go (s_iast rfl (LY.lt L0 (by decide)) (LY.k1275 L0) (inLit (LY.n1275 L0) qk4.1 qk4.2 (by decide))) ?_
  refine XS.go (s_aloadn rfl rfl rfl) ?_
  refine XS.go (s_getr rfl xf12_43 (LY.lt (by simp only [LY_si, LY_sj]; exact L0) (by decide)) (LY.k1262 (by simp only [LY_si, LY_sj]; exact L0)) (by decide) rfl (LY.r1262_22 (by simp only [LY_si, LY_sj]; exact L0))) ?_
  refine XS.go (s_iloadn rfl rfl rfl) ?_
  replace hf := xi_none hf
  obtain ⟨qk5, hf⟩ := hf
  refine XS.go (s_ialde rfl (LY.lt (by simp only [LY_si, LY_sj]; exact L0) (by decide)) (LY.k1274 (by simp only [LY_si, LY_sj]; exact L0)) (inLit (LY.n1274 (by simp only [LY_si, LY_sj]; exact L0)) qk5.1 qk5.2 (by decide)) (hi_hsi_na (by decide))) ?_
  refine XS.go (s_sipush (v := 128) rfl rfl) ?_
  refine r_icmp_gt (tgt := 258) rfl rfl (fun qc6 => ?_) (fun qc6 => ?_)
  · replace hf := xi_pos hf qc6
    exact XR.forget (L2 := [some (.ref 1262), none, none, none, none, none]) ⟨rfl, trivial⟩ (kb_m_structType_258 (by simp only [LY_si, LY_sj]; exact L0) hf)
  · replace hf := xi_neg hf qc6
    refine XS.go (s_aloadn rfl rfl rfl) ?_
    refine XS.go (s_iloadn rfl rfl rfl) ?_
    refine XS.go (s_iloadn rfl rfl rfl) ?_
    refine XS.go (s_iloadn rfl rfl rfl) ?_
    replace hf := xb_some hf
    obtain ⟨r7, e8, hf⟩ := hf
    refine r_callv rfl xvX12_flatten xm12_318 (kf_m_flatten (d := d) (by simp only [LY_si, LY_sj]; exact L0) e8) (LY.lt (by simp only [LY_si, LY_sj]; exact L0) (by decide)) (LY.k1262 (by simp only [LY_si, LY_sj]; exact L0)) (by decide) rfl rfl (dl0 (by decide)) (by decide) (Nat.le_of_ble_eq_true rfl) ?_
    rintro _ _ ⟨⟨rfl, rfl⟩, L9⟩
    exact XR.forget (L2 := [some (.ref 1262), none, none, none, none, none]) ⟨rfl, trivial⟩ (kb_m_structType_258 L9 hf)
def b_m_structType_177 (x1 : Int32) (x2 : Int32) (x3 : Int32) (x4 : Int32) (y0 : Int32) (h : XH) : Option (Unit × XH) := (if 0 ≤ x1 ∧ x1 < nI 12 then (Option.bind (f_m_upTo (hi h 1274 (Int32.toNatClampNeg x1)) x4 h) fun r11 => (if 0 ≤ x2 ∧ x2 < nI 144 then (if 0 ≤ x1 ∧ x1 < nI 12 then (if x4 ≤ (hi r11.2 1275 (Int32.toNatClampNeg x1)) then (b_m_structType_238 x1 x2 x3 x1 (hi r11.2 1275 (Int32.toNatClampNeg x1)) (hsi (hsi r11.2 1279 (Int32.toNatClampNeg x2) r11.1) 1274 (Int32.toNatClampNeg x1) (r11.1 + y0))) else (b_m_structType_238 x1 x2 x3 x1 x4 (hsi (hsi r11.2 1279 (Int32.toNatClampNeg x2) r11.1) 1274 (Int32.toNatClampNeg x1) (r11.1 + y0)))) else none) else none)) else none)
set_option maxRecDepth 20000 in
theorem kb_m_structType_177 {l : Launch} {G : XG} {d : Nat} {x1 : Int32} {x2 : Int32} {x3 : Int32} {x4 : Int32} {y0 : Int32} {h : XH} {r : Unit × XH} (L0 : LY h) (hf : b_m_structType_177 x1 x2 x3 x4 y0 h = some r) : XR l G xEX12_structType (d + 2) (177, [some (.ref 1262), some (.int x1), some (.int x2), some (.int x3), some (.int x4), none], [(.int y0)], h) (fun C => ∃ v, xRet xEX12_structType C v ∧ (C.2.2.2 = r.2 ∧ v = none) ∧ LY r.2) := by
  unfold b_m_structType_177 at hf
  refine XS.go (XS.lcl (L3 := [some (.ref 1262), some (.int x1), some (.int x2), some (.int x3), some (.int x4), some (.int y0)]) (s_istore rfl (Nat.le_of_ble_eq_true rfl)) rfl) ?_
  refine XS.go (s_aloadn rfl rfl rfl) ?_
  refine XS.go (s_getr rfl xf12_58 (LY.lt L0 (by decide)) (LY.k1262 L0) (by decide) rfl (LY.r1262_27 L0)) ?_
  refine XS.go (s_iloadn rfl rfl rfl) ?_
  refine XS.go (s_aloadn rfl rfl rfl) ?_
  refine XS.go (s_getr rfl xf12_43 (LY.lt L0 (by decide)) (LY.k1262 L0) (by decide) rfl (LY.r1262_22 L0)) ?_
  refine XS.go (s_iloadn rfl rfl rfl) ?_
  replace hf := xi_none hf
  obtain ⟨qk10, hf⟩ := hf
  refine XS.go (s_ialde rfl (LY.lt L0 (by decide)) (LY.k1274 L0) (inLit (LY.n1274 L0) qk10.1 qk10.2 (by decide)) rfl) ?_
  refine XS.go (s_iload rfl rfl) ?_
  replace hf := xb_some hf
  obtain ⟨r11, e12, hf⟩ := hf
  refine r_calls rfl xsX12_upTo xm12_309 (kf_m_upTo (d := d) L0 e12) rfl rfl (dl0 (by decide)) (by decide) (Nat.le_of_ble_eq_true rfl) ?_
  rintro _ _ ⟨⟨rfl, rfl⟩, L13⟩
  replace hf := xi_none hf
  obtain ⟨qk14, hf⟩ := hf
  refine XS.go (s_iast rfl (LY.lt L13 (by decide)) (LY.k1279 L13) (inLit (LY.n1279 L13) qk14.1 qk14.2 (by decide))) ?_
  refine XS.go (s_aloadn rfl rfl rfl) ?_
  refine XS.go (s_getr rfl xf12_43 (LY.lt (by simp only [LY_si, LY_sj]; exact L13) (by decide)) (LY.k1262 (by simp only [LY_si, LY_sj]; exact L13)) (by decide) rfl (LY.r1262_22 (by simp only [LY_si, LY_sj]; exact L13))) ?_
  refine XS.go (s_iloadn rfl rfl rfl) ?_
  refine XS.go (s_aloadn rfl rfl rfl) ?_
  refine XS.go (s_getr rfl xf12_58 (LY.lt (by simp only [LY_si, LY_sj]; exact L13) (by decide)) (LY.k1262 (by simp only [LY_si, LY_sj]; exact L13)) (by decide) rfl (LY.r1262_27 (by simp only [LY_si, LY_sj]; exact L13))) ?_
  refine XS.go (s_iloadn rfl rfl rfl) ?_
  refine XS.go (s_ialde rfl (LY.lt (by simp only [LY_si, LY_sj]; exact L13) (by decide)) (LY.k1279 (by simp only [LY_si, LY_sj]; exact L13)) (inLit (LY.n1279 (by simp only [LY_si, LY_sj]; exact L13)) qk14.1 qk14.2 (by decide)) hi_hsi_eq) ?_
  refine XS.go (s_iload rfl rfl) ?_
  refine XS.go (s_iadd rfl) ?_
  replace hf := xi_none hf
  obtain ⟨qk15, hf⟩ := hf
  refine XS.go (s_iast rfl (LY.lt (by simp only [LY_si, LY_sj]; exact L13) (by decide)) (LY.k1274 (by simp only [LY_si, LY_sj]; exact L13)) (inLit (LY.n1274 (by simp only [LY_si, LY_sj]; exact L13)) qk15.1 qk15.2 (by decide))) ?_
  refine XS.go (s_aloadn rfl rfl rfl) ?_
  refine XS.go (s_getr rfl xf12_46 (LY.lt (by simp only [LY_si, LY_sj]; exact L13) (by decide)) (LY.k1262 (by simp only [LY_si, LY_sj]; exact L13)) (by decide) rfl (LY.r1262_23 (by simp only [LY_si, LY_sj]; exact L13))) ?_
  refine XS.go (s_iloadn rfl rfl rfl) ?_
  refine XS.go (s_iload rfl rfl) ?_
  refine XS.go (s_aloadn rfl rfl rfl) ?_
  refine XS.go (s_getr rfl xf12_46 (LY.lt (by simp only [LY_si, LY_sj]; exact L13) (by decide)) (LY.k1262 (by simp only [LY_si, LY_sj]; exact L13)) (by decide) rfl (LY.r1262_23 (by simp only [LY_si, LY_sj]; exact L13))) ?_
  refine XS.go (s_iloadn rfl rfl rfl) ?_
  refine XS.go (s_ialde rfl (LY.lt (by simp only [LY_si, LY_sj]; exact L13) (by decide)) (LY.k1275 (by simp only [LY_si, LY_sj]; exact L13)) (inLit (LY.n1275 (by simp only [LY_si, LY_sj]; exact L13)) qk15.1 qk15.2 (by decide)) ((hi_hsi_na (by decide)).trans (hi_hsi_na (by decide)))) ?_
  refine r_icmp_le (tgt := 232) rfl rfl (fun qc16 => ?_) (fun qc16 => ?_)
  · replace hf := xi_pos hf qc16
    refine XS.go (s_aloadn rfl rfl rfl) ?_
    refine XS.go (s_getr rfl xf12_46 (LY.lt (by simp only [LY_si, LY_sj]; exact L13) (by decide)) (LY.k1262 (by simp only [LY_si, LY_sj]; exact L13)) (by decide) rfl (LY.r1262_23 (by simp only [LY_si, LY_sj]; exact L13))) ?_
    refine XS.go (s_iloadn rfl rfl rfl) ?_
    refine XS.go (s_ialde rfl (LY.lt (by simp only [LY_si, LY_sj]; exact L13) (by decide)) (LY.k1275 (by simp only [LY_si, LY_sj]; exact L13)) (inLit (LY.n1275 (by simp only [LY_si, LY_sj]; exact L13)) qk15.1 qk15.2 (by decide)) ((hi_hsi_na (by decide)).trans (hi_hsi_na (by decide)))) ?_
    exact XR.forget (L2 := [some (.ref 1262), some (.int x1), some (.int x2), some (.int x3), none, none]) ⟨rfl, ⟨rfl, ⟨rfl, ⟨rfl, trivial⟩⟩⟩⟩ (kb_m_structType_238 (by simp only [LY_si, LY_sj]; exact L13) hf)
  · replace hf := xi_neg hf qc16
    refine XS.go (s_iload rfl rfl) ?_
    refine XS.go (s_goto (tgt := 238) rfl rfl) ?_
    exact XR.forget (L2 := [some (.ref 1262), some (.int x1), some (.int x2), some (.int x3), none, none]) ⟨rfl, ⟨rfl, ⟨rfl, ⟨rfl, trivial⟩⟩⟩⟩ (kb_m_structType_238 (by simp only [LY_si, LY_sj]; exact L13) hf)
def b_m_structType_159 (x1 : Int32) (x2 : Int32) (x3 : Int32) (y0 : Int32) (h : XH) : Option (Unit × XH) := (if ¬ x3 = (-1) then (if 0 ≤ x3 ∧ x3 < nI 12 then (b_m_structType_177 x1 x2 x3 y0 (hi h 1274 (Int32.toNatClampNeg x3)) h) else none) else (b_m_structType_177 x1 x2 x3 y0 y0 h))
set_option maxRecDepth 20000 in
theorem kb_m_structType_159 {l : Launch} {G : XG} {d : Nat} {x1 : Int32} {x2 : Int32} {x3 : Int32} {y0 : Int32} {h : XH} {r : Unit × XH} (L0 : LY h) (hf : b_m_structType_159 x1 x2 x3 y0 h = some r) : XR l G xEX12_structType (d + 2) (159, [some (.ref 1262), some (.int x1), some (.int x2), some (.int x3), none, none], [(.int y0)], h) (fun C => ∃ v, xRet xEX12_structType C v ∧ (C.2.2.2 = r.2 ∧ v = none) ∧ LY r.2) := by
  unfold b_m_structType_159 at hf
  refine XS.go (XS.lcl (L3 := [some (.ref 1262), some (.int x1), some (.int x2), some (.int x3), some (.int y0), none]) (s_istore rfl (Nat.le_of_ble_eq_true rfl)) rfl) ?_
  refine XS.go (s_iloadn rfl rfl rfl) ?_
  refine XS.go (s_iconst (v := (-1)) rfl rfl) ?_
  refine r_icmp_ne (tgt := 171) rfl rfl (fun qc17 => ?_) (fun qc17 => ?_)
  · replace hf := xi_pos hf qc17
    refine XS.go (s_aloadn rfl rfl rfl) ?_
    refine XS.go (s_getr rfl xf12_43 (LY.lt L0 (by decide)) (LY.k1262 L0) (by decide) rfl (LY.r1262_22 L0)) ?_
    refine XS.go (s_iloadn rfl rfl rfl) ?_
    replace hf := xi_none hf
    obtain ⟨qk18, hf⟩ := hf
    refine XS.go (s_ialde rfl (LY.lt L0 (by decide)) (LY.k1274 L0) (inLit (LY.n1274 L0) qk18.1 qk18.2 (by decide)) rfl) ?_
    exact XR.forget (L2 := [some (.ref 1262), some (.int x1), some (.int x2), some (.int x3), some (.int y0), none]) ⟨rfl, ⟨rfl, ⟨rfl, ⟨rfl, ⟨rfl, trivial⟩⟩⟩⟩⟩ (kb_m_structType_177 L0 hf)
  · replace hf := xi_neg hf qc17
    refine XS.go (s_iload rfl rfl) ?_
    refine XS.go (s_goto (tgt := 177) rfl rfl) ?_
    exact XR.forget (L2 := [some (.ref 1262), some (.int x1), some (.int x2), some (.int x3), some (.int y0), none]) ⟨rfl, ⟨rfl, ⟨rfl, ⟨rfl, ⟨rfl, trivial⟩⟩⟩⟩⟩ (kb_m_structType_177 L0 hf)
def b_m_structType_132 (x1 : Int32) (x2 : Int32) (x3 : Int32) (y1 : Int32) (y2 : Int32) (h : XH) : Option (Unit × XH) := (if 0 ≤ y1 ∧ y1 < nI 144 then (if ¬ x3 = (-1) then (if 0 ≤ x3 ∧ x3 < nI 12 then (b_m_structType_159 x1 x2 x3 (hi h 1275 (Int32.toNatClampNeg x3)) (hsi h 1278 (Int32.toNatClampNeg y1) y2)) else none) else (if 0 ≤ (hi h 1262 13) ∧ (hi h 1262 13) < nI 4001 then (Option.bind (f_m_bytesOf (hi h 1269 (Int32.toNatClampNeg (hi h 1262 13))) (hsi h 1278 (Int32.toNatClampNeg y1) y2)) fun r23 => (b_m_structType_159 x1 x2 x3 r23.1 r23.2)) else none)) else none)
set_option maxRecDepth 20000 in
theorem kb_m_structType_132 {l : Launch} {G : XG} {d : Nat} {x1 : Int32} {x2 : Int32} {x3 : Int32} {y1 : Int32} {y2 : Int32} {h : XH} {r : Unit × XH} (L0 : LY h) (hf : b_m_structType_132 x1 x2 x3 y1 y2 h = some r) : XR l G xEX12_structType (d + 2) (132, [some (.ref 1262), some (.int x1), some (.int x2), some (.int x3), none, none], [(.int y2), (.int y1), (.ref 1278)], h) (fun C => ∃ v, xRet xEX12_structType C v ∧ (C.2.2.2 = r.2 ∧ v = none) ∧ LY r.2) := by
  unfold b_m_structType_132 at hf
  replace hf := xi_none hf
  obtain ⟨qk19, hf⟩ := hf
  refine XS.go (s_iast rfl (LY.lt L0 (by decide)) (LY.k1278 L0) (inLit (LY.n1278 L0) qk19.1 qk19.2 (by decide))) ?_
  refine XS.go (s_iloadn rfl rfl rfl) ?_
  refine XS.go (s_iconst (v := (-1)) rfl rfl) ?_
  refine r_icmp_ne (tgt := 153) rfl rfl (fun qc20 => ?_) (fun qc20 => ?_)
  · replace hf := xi_pos hf qc20
    refine XS.go (s_aloadn rfl rfl rfl) ?_
    refine XS.go (s_getr rfl xf12_46 (LY.lt (by simp only [LY_si, LY_sj]; exact L0) (by decide)) (LY.k1262 (by simp only [LY_si, LY_sj]; exact L0)) (by decide) rfl (LY.r1262_23 (by simp only [LY_si, LY_sj]; exact L0))) ?_
    refine XS.go (s_iloadn rfl rfl rfl) ?_
    replace hf := xi_none hf
    obtain ⟨qk21, hf⟩ := hf
    refine XS.go (s_ialde rfl (LY.lt (by simp only [LY_si, LY_sj]; exact L0) (by decide)) (LY.k1275 (by simp only [LY_si, LY_sj]; exact L0)) (inLit (LY.n1275 (by simp only [LY_si, LY_sj]; exact L0)) qk21.1 qk21.2 (by decide)) (hi_hsi_na (by decide))) ?_
    exact XR.forget (L2 := [some (.ref 1262), some (.int x1), some (.int x2), some (.int x3), none, none]) ⟨rfl, ⟨rfl, ⟨rfl, ⟨rfl, trivial⟩⟩⟩⟩ (kb_m_structType_159 (by simp only [LY_si, LY_sj]; exact L0) hf)
  · replace hf := xi_neg hf qc20
    refine XS.go (s_aloadn rfl rfl rfl) ?_
    refine XS.go (s_getr rfl xf12_28 (LY.lt (by simp only [LY_si, LY_sj]; exact L0) (by decide)) (LY.k1262 (by simp only [LY_si, LY_sj]; exact L0)) (by decide) rfl (LY.r1262_11 (by simp only [LY_si, LY_sj]; exact L0))) ?_
    refine XS.go (s_aloadn rfl rfl rfl) ?_
    refine XS.go (s_getie rfl xf12_224 (LY.lt (by simp only [LY_si, LY_sj]; exact L0) (by decide)) (LY.k1262 (by simp only [LY_si, LY_sj]; exact L0)) (by decide) rfl (hi_hsi_na (by decide))) ?_
    replace hf := xi_none hf
    obtain ⟨qk22, hf⟩ := hf
    refine XS.go (s_ialde rfl (LY.lt (by simp only [LY_si, LY_sj]; exact L0) (by decide)) (LY.k1269 (by simp only [LY_si, LY_sj]; exact L0)) (inLit (LY.n1269 (by simp only [LY_si, LY_sj]; exact L0)) qk22.1 qk22.2 (by decide)) (hi_hsi_na (by decide))) ?_
    replace hf := xb_some hf
    obtain ⟨r23, e24, hf⟩ := hf
    refine r_calls rfl xsX12_bytesOf xm12_315 (kf_m_bytesOf (d := d) (by simp only [LY_si, LY_sj]; exact L0) e24) rfl rfl (dl0 (by decide)) (by decide) (Nat.le_of_ble_eq_true rfl) ?_
    rintro _ _ ⟨⟨rfl, rfl⟩, L25⟩
    refine XS.go (s_goto (tgt := 159) rfl rfl) ?_
    exact XR.forget (L2 := [some (.ref 1262), some (.int x1), some (.int x2), some (.int x3), none, none]) ⟨rfl, ⟨rfl, ⟨rfl, ⟨rfl, trivial⟩⟩⟩⟩ (kb_m_structType_159 L25 hf)
def b_m_structType_108 (x1 : Int32) (x2 : Int32) (x3 : Int32) (y1 : Int32) (y2 : Int32) (h : XH) : Option (Unit × XH) := (if 0 ≤ y1 ∧ y1 < nI 144 then (if ¬ x3 = (-1) then (b_m_structType_132 x1 x2 x3 x2 x3 (hsi h 1277 (Int32.toNatClampNeg y1) y2)) else (if 0 ≤ (hi h 1262 13) ∧ (hi h 1262 13) < nI 4001 then (b_m_structType_132 x1 x2 x3 x2 (hi h 1269 (Int32.toNatClampNeg (hi h 1262 13))) (hsi h 1277 (Int32.toNatClampNeg y1) y2)) else none)) else none)
set_option maxRecDepth 20000 in
theorem kb_m_structType_108 {l : Launch} {G : XG} {d : Nat} {x1 : Int32} {x2 : Int32} {x3 : Int32} {y1 : Int32} {y2 : Int32} {h : XH} {r : Unit × XH} (L0 : LY h) (hf : b_m_structType_108 x1 x2 x3 y1 y2 h = some r) : XR l G xEX12_structType (d + 2) (108, [some (.ref 1262), some (.int x1), some (.int x2), some (.int x3), none, none], [(.int y2), (.int y1), (.ref 1277)], h) (fun C => ∃ v, xRet xEX12_structType C v ∧ (C.2.2.2 = r.2 ∧ v = none) ∧ LY r.2) := by
  unfold b_m_structType_108 at hf
  replace hf := xi_none hf
  obtain ⟨qk26, hf⟩ := hf
  refine XS.go (s_iast rfl (LY.lt L0 (by decide)) (LY.k1277 L0) (inLit (LY.n1277 L0) qk26.1 qk26.2 (by decide))) ?_
  refine XS.go (s_aloadn rfl rfl rfl) ?_
  refine XS.go (s_getr rfl xf12_55 (LY.lt (by simp only [LY_si, LY_sj]; exact L0) (by decide)) (LY.k1262 (by simp only [LY_si, LY_sj]; exact L0)) (by decide) rfl (LY.r1262_26 (by simp only [LY_si, LY_sj]; exact L0))) ?_
  refine XS.go (s_iloadn rfl rfl rfl) ?_
  refine XS.go (s_iloadn rfl rfl rfl) ?_
  refine XS.go (s_iconst (v := (-1)) rfl rfl) ?_
  refine r_icmp_ne (tgt := 131) rfl rfl (fun qc27 => ?_) (fun qc27 => ?_)
  · replace hf := xi_pos hf qc27
    refine XS.go (s_iloadn rfl rfl rfl) ?_
    exact XR.forget (L2 := [some (.ref 1262), some (.int x1), some (.int x2), some (.int x3), none, none]) ⟨rfl, ⟨rfl, ⟨rfl, ⟨rfl, trivial⟩⟩⟩⟩ (kb_m_structType_132 (by simp only [LY_si, LY_sj]; exact L0) hf)
  · replace hf := xi_neg hf qc27
    refine XS.go (s_aloadn rfl rfl rfl) ?_
    refine XS.go (s_getr rfl xf12_28 (LY.lt (by simp only [LY_si, LY_sj]; exact L0) (by decide)) (LY.k1262 (by simp only [LY_si, LY_sj]; exact L0)) (by decide) rfl (LY.r1262_11 (by simp only [LY_si, LY_sj]; exact L0))) ?_
    refine XS.go (s_aloadn rfl rfl rfl) ?_
    refine XS.go (s_getie rfl xf12_224 (LY.lt (by simp only [LY_si, LY_sj]; exact L0) (by decide)) (LY.k1262 (by simp only [LY_si, LY_sj]; exact L0)) (by decide) rfl (hi_hsi_na (by decide))) ?_
    replace hf := xi_none hf
    obtain ⟨qk28, hf⟩ := hf
    refine XS.go (s_ialde rfl (LY.lt (by simp only [LY_si, LY_sj]; exact L0) (by decide)) (LY.k1269 (by simp only [LY_si, LY_sj]; exact L0)) (inLit (LY.n1269 (by simp only [LY_si, LY_sj]; exact L0)) qk28.1 qk28.2 (by decide)) (hi_hsi_na (by decide))) ?_
    refine XS.go (s_goto (tgt := 132) rfl rfl) ?_
    exact XR.forget (L2 := [some (.ref 1262), some (.int x1), some (.int x2), some (.int x3), none, none]) ⟨rfl, ⟨rfl, ⟨rfl, ⟨rfl, trivial⟩⟩⟩⟩ (kb_m_structType_132 (by simp only [LY_si, LY_sj]; exact L0) hf)
def b_m_structType_93 (x1 : Int32) (x2 : Int32) (x3 : Int32) (h : XH) : Option (Unit × XH) := (if ¬ x3 = (-1) then (b_m_structType_108 x1 x2 x3 x2 2 h) else (b_m_structType_108 x1 x2 x3 x2 0 h))
set_option maxRecDepth 20000 in
theorem kb_m_structType_93 {l : Launch} {G : XG} {d : Nat} {x1 : Int32} {x2 : Int32} {x3 : Int32} {h : XH} {r : Unit × XH} (L0 : LY h) (hf : b_m_structType_93 x1 x2 x3 h = some r) : XR l G xEX12_structType (d + 2) (93, [some (.ref 1262), some (.int x1), some (.int x2), some (.int x3), none, none], [], h) (fun C => ∃ v, xRet xEX12_structType C v ∧ (C.2.2.2 = r.2 ∧ v = none) ∧ LY r.2) := by
  unfold b_m_structType_93 at hf
  refine XS.go (s_aloadn rfl rfl rfl) ?_
  refine XS.go (s_getr rfl xf12_52 (LY.lt L0 (by decide)) (LY.k1262 L0) (by decide) rfl (LY.r1262_25 L0)) ?_
  refine XS.go (s_iloadn rfl rfl rfl) ?_
  refine XS.go (s_iloadn rfl rfl rfl) ?_
  refine XS.go (s_iconst (v := (-1)) rfl rfl) ?_
  refine r_icmp_ne (tgt := 107) rfl rfl (fun qc29 => ?_) (fun qc29 => ?_)
  · replace hf := xi_pos hf qc29
    refine XS.go (s_iconst (v := 2) rfl rfl) ?_
    exact XR.forget (L2 := [some (.ref 1262), some (.int x1), some (.int x2), some (.int x3), none, none]) ⟨rfl, ⟨rfl, ⟨rfl, ⟨rfl, trivial⟩⟩⟩⟩ (kb_m_structType_108 L0 hf)
  · replace hf := xi_neg hf qc29
    refine XS.go (s_iconst (v := 0) rfl rfl) ?_
    refine XS.go (s_goto (tgt := 108) rfl rfl) ?_
    exact XR.forget (L2 := [some (.ref 1262), some (.int x1), some (.int x2), some (.int x3), none, none]) ⟨rfl, ⟨rfl, ⟨rfl, ⟨rfl, trivial⟩⟩⟩⟩ (kb_m_structType_108 L0 hf)
def b_m_structType_66 (x1 : Int32) (x2 : Int32) (y0 : Int32) (h : XH) : Option (Unit × XH) := (if ¬ y0 = (-1) then (b_m_structType_93 x1 x2 y0 h) else (Option.bind (f_m_flaw 5 h) fun r31 => (some ((), r31.2))))
set_option maxRecDepth 20000 in
theorem kb_m_structType_66 {l : Launch} {G : XG} {d : Nat} {x1 : Int32} {x2 : Int32} {y0 : Int32} {h : XH} {r : Unit × XH} (L0 : LY h) (hf : b_m_structType_66 x1 x2 y0 h = some r) : XR l G xEX12_structType (d + 2) (66, [some (.ref 1262), some (.int x1), some (.int x2), none, none, none], [(.int y0)], h) (fun C => ∃ v, xRet xEX12_structType C v ∧ (C.2.2.2 = r.2 ∧ v = none) ∧ LY r.2) := by
  unfold b_m_structType_66 at hf
  refine XS.go (XS.lcl (L3 := [some (.ref 1262), some (.int x1), some (.int x2), some (.int y0), none, none]) (s_istoren rfl rfl (Nat.le_of_ble_eq_true rfl)) rfl) ?_
  refine XS.go (s_iloadn rfl rfl rfl) ?_
  refine XS.go (s_iconst (v := (-1)) rfl rfl) ?_
  refine r_icmp_ne (tgt := 78) rfl rfl (fun qc30 => ?_) (fun qc30 => ?_)
  · replace hf := xi_pos hf qc30
    refine XS.go (s_goto (tgt := 93) rfl rfl) ?_
    exact XR.forget (L2 := [some (.ref 1262), some (.int x1), some (.int x2), some (.int y0), none, none]) ⟨rfl, ⟨rfl, ⟨rfl, ⟨rfl, trivial⟩⟩⟩⟩ (kb_m_structType_93 L0 hf)
  · replace hf := xi_neg hf qc30
    refine XS.go (s_aloadn rfl rfl rfl) ?_
    refine XS.go (s_iconst (v := 5) rfl rfl) ?_
    replace hf := xb_some hf
    obtain ⟨r31, e32, hf⟩ := hf
    refine r_callv rfl xvX12_flaw xm12_230 (kf_m_flaw (d := d) L0 e32) (LY.lt L0 (by decide)) (LY.k1262 L0) (by decide) rfl rfl (dl0 (by decide)) (by decide) (Nat.le_of_ble_eq_true rfl) ?_
    rintro _ _ ⟨⟨rfl, rfl⟩, L33⟩
    cases hf
    exact XR.retv rfl rfl (fun hret => ⟨_, hret, ⟨rfl, rfl⟩, L33⟩)
def b_m_structType_65 (x1 : Int32) (x2 : Int32) (h : XH) : Option (Unit × XH) := (b_m_structType_66 x1 x2 (-1) h)
set_option maxRecDepth 20000 in
theorem kb_m_structType_65 {l : Launch} {G : XG} {d : Nat} {x1 : Int32} {x2 : Int32} {h : XH} {r : Unit × XH} (L0 : LY h) (hf : b_m_structType_65 x1 x2 h = some r) : XR l G xEX12_structType (d + 2) (65, [some (.ref 1262), some (.int x1), some (.int x2), none, none, none], [], h) (fun C => ∃ v, xRet xEX12_structType C v ∧ (C.2.2.2 = r.2 ∧ v = none) ∧ LY r.2) := by
  unfold b_m_structType_65 at hf
  refine XS.go (s_iconst (v := (-1)) rfl rfl) ?_
  exact XR.forget (L2 := [some (.ref 1262), some (.int x1), some (.int x2), none, none, none]) ⟨rfl, ⟨rfl, ⟨rfl, trivial⟩⟩⟩ (kb_m_structType_66 L0 hf)
def f_m_structType (a0 : Int32) (a1 : Int32) (h : XH) : Option (Unit × XH) := (if (hi h 1262 14) = 0 then (Option.bind (f_m_isName h) fun r35 => (if r35.1 = 0 then (Option.bind (f_m_isScalar r35.2) fun r39 => (if ¬ r39.1 = 0 then (b_m_structType_93 a0 a1 (-1) r39.2) else (Option.bind (f_m_misfit r39.2) fun r43 => (some ((), r43.2))))) else (Option.bind (f_m_definition (hi r35.2 1262 13) r35.2) fun r46 => (if r46.1 = (-1) then (b_m_structType_65 a0 a1 r46.2) else (if 0 ≤ r46.1 ∧ r46.1 < nI 40 then (if ¬ (hi r46.2 1271 (Int32.toNatClampNeg r46.1)) = 2 then (b_m_structType_65 a0 a1 r46.2) else (if a0 ≤ (hi r46.2 1272 (Int32.toNatClampNeg r46.1)) then (b_m_structType_65 a0 a1 r46.2) else (b_m_structType_66 a0 a1 (hi r46.2 1272 (Int32.toNatClampNeg r46.1)) r46.2))) else none))))) else (some ((), h)))
set_option maxRecDepth 20000 in
theorem kf_m_structType {l : Launch} {G : XG} {d : Nat} {a0 : Int32} {a1 : Int32} {h : XH} {r : Unit × XH} (L0 : LY h) (hf : f_m_structType a0 a1 h = some r) : XC l G xEX12_structType (d + 2) [.ref 1262, .int a0, .int a1] h (fun v h2 => (h2 = r.2 ∧ v = none) ∧ LY r.2) := by
  refine XC.virt xvX12_structType (Nat.le_of_ble_eq_true rfl) ?_
  unfold f_m_structType at hf
  refine XR.norm (L3 := [some (.ref 1262), some (.int a0), some (.int a1), none, none, none]) rfl ?_
  refine XS.go (s_aloadn rfl rfl rfl) ?_
  refine XS.go (s_getie rfl xf12_221 (LY.lt L0 (by decide)) (LY.k1262 L0) (by decide) rfl rfl) ?_
  refine r_if_eq (tgt := 8) rfl rfl (fun qc34 => ?_) (fun qc34 => ?_)
  · replace hf := xi_pos hf qc34
    refine XS.go (s_iconst (v := (-1)) rfl rfl) ?_
    refine XS.go (XS.lcl (L3 := [some (.ref 1262), some (.int a0), some (.int a1), some (.int (-1)), none, none]) (s_istoren rfl rfl (Nat.le_of_ble_eq_true rfl)) rfl) ?_
    refine XS.go (s_aloadn rfl rfl rfl) ?_
    replace hf := xb_some hf
    obtain ⟨r35, e36, hf⟩ := hf
    refine r_callv rfl xvX12_isName xm12_243 (kf_m_isName (d := d) L0 e36) (LY.lt L0 (by decide)) (LY.k1262 L0) (by decide) rfl rfl (dl0 (by decide)) (by decide) (Nat.le_of_ble_eq_true rfl) ?_
    rintro _ _ ⟨⟨rfl, rfl⟩, L37⟩
    refine r_if_eq (tgt := 81) rfl rfl (fun qc38 => ?_) (fun qc38 => ?_)
    · replace hf := xi_pos hf qc38
      refine XS.go (s_aloadn rfl rfl rfl) ?_
      replace hf := xb_some hf
      obtain ⟨r39, e40, hf⟩ := hf
      refine r_callv rfl xvX12_isScalar xm12_312 (kf_m_isScalar (d := d) L37 e40) (LY.lt L37 (by decide)) (LY.k1262 L37) (by decide) rfl rfl (dl0 (by decide)) (by decide) (Nat.le_of_ble_eq_true rfl) ?_
      rintro _ _ ⟨⟨rfl, rfl⟩, L41⟩
      refine r_if_ne (tgt := 93) rfl rfl (fun qc42 => ?_) (fun qc42 => ?_)
      · replace hf := xi_pos hf qc42
        exact XR.forget (L2 := [some (.ref 1262), some (.int a0), some (.int a1), some (.int (-1)), none, none]) ⟨rfl, ⟨rfl, ⟨rfl, ⟨rfl, trivial⟩⟩⟩⟩ (kb_m_structType_93 L41 hf)
      · replace hf := xi_neg hf qc42
        refine XS.go (s_aloadn rfl rfl rfl) ?_
        replace hf := xb_some hf
        obtain ⟨r43, e44, hf⟩ := hf
        refine r_callv rfl xvX12_misfit xm12_237 (kf_m_misfit (d := d) L41 e44) (LY.lt L41 (by decide)) (LY.k1262 L41) (by decide) rfl rfl (dl (by decide)) (by decide) (Nat.le_of_ble_eq_true rfl) ?_
        rintro _ _ ⟨⟨rfl, rfl⟩, L45⟩
        cases hf
        exact XR.retv rfl rfl (fun hret => ⟨_, hret, ⟨rfl, rfl⟩, L45⟩)
    · replace hf := xi_neg hf qc38
      refine XS.go (s_aloadn rfl rfl rfl) ?_
      refine XS.go (s_aloadn rfl rfl rfl) ?_
      refine XS.go (s_getie rfl xf12_224 (LY.lt L37 (by decide)) (LY.k1262 L37) (by decide) rfl rfl) ?_
      replace hf := xb_some hf
      obtain ⟨r46, e47, hf⟩ := hf
      refine r_callv rfl xvX12_definition xm12_289 (kf_m_definition (d := d) L37 e47) (LY.lt L37 (by decide)) (LY.k1262 L37) (by decide) rfl rfl (dl (by decide)) (by decide) (Nat.le_of_ble_eq_true rfl) ?_
      rintro _ _ ⟨⟨rfl, rfl⟩, L48⟩
      refine XS.go (XS.lcl (L3 := [some (.ref 1262), some (.int a0), some (.int a1), some (.int (-1)), some (.int r46.1), none]) (s_istore rfl (Nat.le_of_ble_eq_true rfl)) rfl) ?_
      refine XS.go (s_iload rfl rfl) ?_
      refine XS.go (s_iconst (v := (-1)) rfl rfl) ?_
      refine r_icmp_eq (tgt := 65) rfl rfl (fun qc49 => ?_) (fun qc49 => ?_)
      · replace hf := xi_pos hf qc49
        exact XR.forget (L2 := [some (.ref 1262), some (.int a0), some (.int a1), none, none, none]) ⟨rfl, ⟨rfl, ⟨rfl, trivial⟩⟩⟩ (kb_m_structType_65 L48 hf)
      · replace hf := xi_neg hf qc49
        refine XS.go (s_aloadn rfl rfl rfl) ?_
        refine XS.go (s_getr rfl xf12_34 (LY.lt L48 (by decide)) (LY.k1262 L48) (by decide) rfl (LY.r1262_18 L48)) ?_
        refine XS.go (s_iload rfl rfl) ?_
        replace hf := xi_none hf
        obtain ⟨qk50, hf⟩ := hf
        refine XS.go (s_ialde rfl (LY.lt L48 (by decide)) (LY.k1271 L48) (inLit (LY.n1271 L48) qk50.1 qk50.2 (by decide)) rfl) ?_
        refine XS.go (s_iconst (v := 2) rfl rfl) ?_
        refine r_icmp_ne (tgt := 65) rfl rfl (fun qc51 => ?_) (fun qc51 => ?_)
        · replace hf := xi_pos hf qc51
          exact XR.forget (L2 := [some (.ref 1262), some (.int a0), some (.int a1), none, none, none]) ⟨rfl, ⟨rfl, ⟨rfl, trivial⟩⟩⟩ (kb_m_structType_65 L48 hf)
        · replace hf := xi_neg hf qc51
          refine XS.go (s_aloadn rfl rfl rfl) ?_
          refine XS.go (s_getr rfl xf12_37 (LY.lt L48 (by decide)) (LY.k1262 L48) (by decide) rfl (LY.r1262_19 L48)) ?_
          refine XS.go (s_iload rfl rfl) ?_
          refine XS.go (s_ialde rfl (LY.lt L48 (by decide)) (LY.k1272 L48) (inLit (LY.n1272 L48) qk50.1 qk50.2 (by decide)) rfl) ?_
          refine XS.go (s_iloadn rfl rfl rfl) ?_
          refine r_icmp_ge (tgt := 65) rfl rfl (fun qc52 => ?_) (fun qc52 => ?_)
          · replace hf := xi_pos hf qc52
            exact XR.forget (L2 := [some (.ref 1262), some (.int a0), some (.int a1), none, none, none]) ⟨rfl, ⟨rfl, ⟨rfl, trivial⟩⟩⟩ (kb_m_structType_65 L48 hf)
          · replace hf := xi_neg hf qc52
            refine XS.go (s_aloadn rfl rfl rfl) ?_
            refine XS.go (s_getr rfl xf12_37 (LY.lt L48 (by decide)) (LY.k1262 L48) (by decide) rfl (LY.r1262_19 L48)) ?_
            refine XS.go (s_iload rfl rfl) ?_
            refine XS.go (s_ialde rfl (LY.lt L48 (by decide)) (LY.k1272 L48) (inLit (LY.n1272 L48) qk50.1 qk50.2 (by decide)) rfl) ?_
            refine XS.go (s_goto (tgt := 66) rfl rfl) ?_
            exact XR.forget (L2 := [some (.ref 1262), some (.int a0), some (.int a1), none, none, none]) ⟨rfl, ⟨rfl, ⟨rfl, trivial⟩⟩⟩ (kb_m_structType_66 L48 hf)
  · replace hf := xi_neg hf qc34
    cases hf
    exact XR.retv rfl rfl (fun hret => ⟨_, hret, ⟨rfl, rfl⟩, L0⟩)
