/-! The law as a function -/
def b_law_1263 (G : XG) (K23 : Int32 → XH → Option (Int32 × XH)) (x4 : Int32) (h : XH) : Option (Int32 × XH) := (K23 (x4 + 6) h)
set_option maxRecDepth 20000 in
theorem kb_law_1263 {l : Launch} {G : XG} {d : Nat} {K23 : Int32 → XH → Option (Int32 × XH)} {x4 : Int32} {h : XH} {r : Int32 × XH} (hl : l.stackTraces = false) (hN : gN G < 2147483648) (hK23 : ∀ (x4 : Int32) (h : XH), LY h → K23 x4 h = some r → XR l G xEL_law (d + 204) (23, [some (.ref 10000000), some (.ref 0), some (.ref 1262), some (.ref 1316), some (.int x4), none, none, none], [], h) (fun C => ∃ v, xRet xEL_law C v ∧ (C.2.2.2 = r.2 ∧ v = some (.int r.1)) ∧ LY r.2)) (L0 : LY h) (hf : b_law_1263 G K23 x4 h = some r) : XR l G xEL_law (d + 204) (1263, [some (.ref 10000000), some (.ref 0), some (.ref 1262), some (.ref 1316), some (.int x4), none, none, none], [], h) (fun C => ∃ v, xRet xEL_law C v ∧ (C.2.2.2 = r.2 ∧ v = some (.int r.1)) ∧ LY r.2) := by
  unfold b_law_1263 at hf
  refine XS.go (XS.lcl (L3 := [some (.ref 10000000), some (.ref 0), some (.ref 1262), some (.ref 1316), some (.int (x4 + 6)), none, none, none]) (s_iinc (v := x4 + 6) rfl rfl rfl (Nat.le_of_ble_eq_true rfl)) rfl) ?_
  refine XS.go (s_goto (tgt := 23) rfl rfl) ?_
  exact XR.forget (L2 := [some (.ref 10000000), some (.ref 0), some (.ref 1262), some (.ref 1316), some (.int (x4 + 6)), none, none, none]) ⟨rfl, ⟨rfl, ⟨rfl, ⟨rfl, ⟨rfl, trivial⟩⟩⟩⟩⟩ (hK23 (x4 + 6) _ L0 hf)
def b_law_1128 (G : XG) (K23 : Int32 → XH → Option (Int32 × XH)) (x4 : Int32) (h : XH) : Option (Int32 × XH) := (b_law_1263 G K23 x4 h)
set_option maxRecDepth 20000 in
theorem kb_law_1128 {l : Launch} {G : XG} {d : Nat} {K23 : Int32 → XH → Option (Int32 × XH)} {x4 : Int32} {h : XH} {r : Int32 × XH} (hl : l.stackTraces = false) (hN : gN G < 2147483648) (hK23 : ∀ (x4 : Int32) (h : XH), LY h → K23 x4 h = some r → XR l G xEL_law (d + 204) (23, [some (.ref 10000000), some (.ref 0), some (.ref 1262), some (.ref 1316), some (.int x4), none, none, none], [], h) (fun C => ∃ v, xRet xEL_law C v ∧ (C.2.2.2 = r.2 ∧ v = some (.int r.1)) ∧ LY r.2)) (L0 : LY h) (hf : b_law_1128 G K23 x4 h = some r) : XR l G xEL_law (d + 204) (1128, [some (.ref 10000000), some (.ref 0), some (.ref 1262), some (.ref 1316), some (.int x4), none, none, none], [], h) (fun C => ∃ v, xRet xEL_law C v ∧ (C.2.2.2 = r.2 ∧ v = some (.int r.1)) ∧ LY r.2) := by
  unfold b_law_1128 at hf
  refine XS.go (s_goto (tgt := 1263) rfl rfl) ?_
  exact XR.forget (L2 := [some (.ref 10000000), some (.ref 0), some (.ref 1262), some (.ref 1316), some (.int x4), none, none, none]) ⟨rfl, ⟨rfl, ⟨rfl, ⟨rfl, ⟨rfl, trivial⟩⟩⟩⟩⟩ (kb_law_1263 hl hN hK23 L0 hf)
def b_law_1023 (G : XG) (K23 : Int32 → XH → Option (Int32 × XH)) (x4 : Int32) (h : XH) : Option (Int32 × XH) := (b_law_1263 G K23 x4 h)
set_option maxRecDepth 20000 in
theorem kb_law_1023 {l : Launch} {G : XG} {d : Nat} {K23 : Int32 → XH → Option (Int32 × XH)} {x4 : Int32} {h : XH} {r : Int32 × XH} (hl : l.stackTraces = false) (hN : gN G < 2147483648) (hK23 : ∀ (x4 : Int32) (h : XH), LY h → K23 x4 h = some r → XR l G xEL_law (d + 204) (23, [some (.ref 10000000), some (.ref 0), some (.ref 1262), some (.ref 1316), some (.int x4), none, none, none], [], h) (fun C => ∃ v, xRet xEL_law C v ∧ (C.2.2.2 = r.2 ∧ v = some (.int r.1)) ∧ LY r.2)) (L0 : LY h) (hf : b_law_1023 G K23 x4 h = some r) : XR l G xEL_law (d + 204) (1023, [some (.ref 10000000), some (.ref 0), some (.ref 1262), some (.ref 1316), some (.int x4), none, none, none], [], h) (fun C => ∃ v, xRet xEL_law C v ∧ (C.2.2.2 = r.2 ∧ v = some (.int r.1)) ∧ LY r.2) := by
  unfold b_law_1023 at hf
  refine XS.go (s_goto (tgt := 1263) rfl rfl) ?_
  exact XR.forget (L2 := [some (.ref 10000000), some (.ref 0), some (.ref 1262), some (.ref 1316), some (.int x4), none, none, none]) ⟨rfl, ⟨rfl, ⟨rfl, ⟨rfl, ⟨rfl, trivial⟩⟩⟩⟩⟩ (kb_law_1263 hl hN hK23 L0 hf)
def b_law_1017 (G : XG) (K23 : Int32 → XH → Option (Int32 × XH)) (x4 : Int32) (y0 : Int64) (y1 : Int64) (h : XH) : Option (Int32 × XH) := (if (lg_cmp y0 y1) = 0 then (b_law_1023 G K23 x4 h) else (some (0, h)))
set_option maxRecDepth 20000 in
theorem kb_law_1017 {l : Launch} {G : XG} {d : Nat} {K23 : Int32 → XH → Option (Int32 × XH)} {x4 : Int32} {y0 : Int64} {y1 : Int64} {h : XH} {r : Int32 × XH} (hl : l.stackTraces = false) (hN : gN G < 2147483648) (hK23 : ∀ (x4 : Int32) (h : XH), LY h → K23 x4 h = some r → XR l G xEL_law (d + 204) (23, [some (.ref 10000000), some (.ref 0), some (.ref 1262), some (.ref 1316), some (.int x4), none, none, none], [], h) (fun C => ∃ v, xRet xEL_law C v ∧ (C.2.2.2 = r.2 ∧ v = some (.int r.1)) ∧ LY r.2)) (L0 : LY h) (hf : b_law_1017 G K23 x4 y0 y1 h = some r) : XR l G xEL_law (d + 204) (1017, [some (.ref 10000000), some (.ref 0), some (.ref 1262), some (.ref 1316), some (.int x4), none, none, none], [(.long y1), (.long y0)], h) (fun C => ∃ v, xRet xEL_law C v ∧ (C.2.2.2 = r.2 ∧ v = some (.int r.1)) ∧ LY r.2) := by
  unfold b_law_1017 at hf
  refine XS.go (s_lcmp rfl) ?_
  refine r_if_eq (tgt := 1023) rfl rfl (fun qc1 => ?_) (fun qc1 => ?_)
  · replace hf := xi_pos hf qc1
    exact XR.forget (L2 := [some (.ref 10000000), some (.ref 0), some (.ref 1262), some (.ref 1316), some (.int x4), none, none, none]) ⟨rfl, ⟨rfl, ⟨rfl, ⟨rfl, ⟨rfl, trivial⟩⟩⟩⟩⟩ (kb_law_1023 hl hN hK23 L0 hf)
  · replace hf := xi_neg hf qc1
    refine XS.go (s_iconst (v := 0) rfl rfl) ?_
    cases hf
    exact XR.retz rfl rfl (by decide) (fun hret => ⟨_, hret, ⟨rfl, rfl⟩, L0⟩)
def b_law_897 (G : XG) (K23 : Int32 → XH → Option (Int32 × XH)) (x4 : Int32) (h : XH) : Option (Int32 × XH) := (b_law_1263 G K23 x4 h)
set_option maxRecDepth 20000 in
theorem kb_law_897 {l : Launch} {G : XG} {d : Nat} {K23 : Int32 → XH → Option (Int32 × XH)} {x4 : Int32} {h : XH} {r : Int32 × XH} (hl : l.stackTraces = false) (hN : gN G < 2147483648) (hK23 : ∀ (x4 : Int32) (h : XH), LY h → K23 x4 h = some r → XR l G xEL_law (d + 204) (23, [some (.ref 10000000), some (.ref 0), some (.ref 1262), some (.ref 1316), some (.int x4), none, none, none], [], h) (fun C => ∃ v, xRet xEL_law C v ∧ (C.2.2.2 = r.2 ∧ v = some (.int r.1)) ∧ LY r.2)) (L0 : LY h) (hf : b_law_897 G K23 x4 h = some r) : XR l G xEL_law (d + 204) (897, [some (.ref 10000000), some (.ref 0), some (.ref 1262), some (.ref 1316), some (.int x4), none, none, none], [], h) (fun C => ∃ v, xRet xEL_law C v ∧ (C.2.2.2 = r.2 ∧ v = some (.int r.1)) ∧ LY r.2) := by
  unfold b_law_897 at hf
  refine XS.go (s_goto (tgt := 1263) rfl rfl) ?_
  exact XR.forget (L2 := [some (.ref 10000000), some (.ref 0), some (.ref 1262), some (.ref 1316), some (.int x4), none, none, none]) ⟨rfl, ⟨rfl, ⟨rfl, ⟨rfl, ⟨rfl, trivial⟩⟩⟩⟩⟩ (kb_law_1263 hl hN hK23 L0 hf)
def b_law_841 (G : XG) (K23 : Int32 → XH → Option (Int32 × XH)) (x4 : Int32) (h : XH) : Option (Int32 × XH) := (b_law_1263 G K23 x4 h)
set_option maxRecDepth 20000 in
theorem kb_law_841 {l : Launch} {G : XG} {d : Nat} {K23 : Int32 → XH → Option (Int32 × XH)} {x4 : Int32} {h : XH} {r : Int32 × XH} (hl : l.stackTraces = false) (hN : gN G < 2147483648) (hK23 : ∀ (x4 : Int32) (h : XH), LY h → K23 x4 h = some r → XR l G xEL_law (d + 204) (23, [some (.ref 10000000), some (.ref 0), some (.ref 1262), some (.ref 1316), some (.int x4), none, none, none], [], h) (fun C => ∃ v, xRet xEL_law C v ∧ (C.2.2.2 = r.2 ∧ v = some (.int r.1)) ∧ LY r.2)) (L0 : LY h) (hf : b_law_841 G K23 x4 h = some r) : XR l G xEL_law (d + 204) (841, [some (.ref 10000000), some (.ref 0), some (.ref 1262), some (.ref 1316), some (.int x4), none, none, none], [], h) (fun C => ∃ v, xRet xEL_law C v ∧ (C.2.2.2 = r.2 ∧ v = some (.int r.1)) ∧ LY r.2) := by
  unfold b_law_841 at hf
  refine XS.go (s_goto (tgt := 1263) rfl rfl) ?_
  exact XR.forget (L2 := [some (.ref 10000000), some (.ref 0), some (.ref 1262), some (.ref 1316), some (.int x4), none, none, none]) ⟨rfl, ⟨rfl, ⟨rfl, ⟨rfl, ⟨rfl, trivial⟩⟩⟩⟩⟩ (kb_law_1263 hl hN hK23 L0 hf)
def b_law_797 (G : XG) (K23 : Int32 → XH → Option (Int32 × XH)) (x4 : Int32) (h : XH) : Option (Int32 × XH) := (b_law_1263 G K23 x4 h)
set_option maxRecDepth 20000 in
theorem kb_law_797 {l : Launch} {G : XG} {d : Nat} {K23 : Int32 → XH → Option (Int32 × XH)} {x4 : Int32} {h : XH} {r : Int32 × XH} (hl : l.stackTraces = false) (hN : gN G < 2147483648) (hK23 : ∀ (x4 : Int32) (h : XH), LY h → K23 x4 h = some r → XR l G xEL_law (d + 204) (23, [some (.ref 10000000), some (.ref 0), some (.ref 1262), some (.ref 1316), some (.int x4), none, none, none], [], h) (fun C => ∃ v, xRet xEL_law C v ∧ (C.2.2.2 = r.2 ∧ v = some (.int r.1)) ∧ LY r.2)) (L0 : LY h) (hf : b_law_797 G K23 x4 h = some r) : XR l G xEL_law (d + 204) (797, [some (.ref 10000000), some (.ref 0), some (.ref 1262), some (.ref 1316), some (.int x4), none, none, none], [], h) (fun C => ∃ v, xRet xEL_law C v ∧ (C.2.2.2 = r.2 ∧ v = some (.int r.1)) ∧ LY r.2) := by
  unfold b_law_797 at hf
  refine XS.go (s_goto (tgt := 1263) rfl rfl) ?_
  exact XR.forget (L2 := [some (.ref 10000000), some (.ref 0), some (.ref 1262), some (.ref 1316), some (.int x4), none, none, none]) ⟨rfl, ⟨rfl, ⟨rfl, ⟨rfl, ⟨rfl, trivial⟩⟩⟩⟩⟩ (kb_law_1263 hl hN hK23 L0 hf)
def b_law_791 (G : XG) (K23 : Int32 → XH → Option (Int32 × XH)) (x4 : Int32) (y0 : Int64) (y1 : Int64) (h : XH) : Option (Int32 × XH) := (if (lg_cmp y0 y1) = 0 then (b_law_797 G K23 x4 h) else (some (0, h)))
set_option maxRecDepth 20000 in
theorem kb_law_791 {l : Launch} {G : XG} {d : Nat} {K23 : Int32 → XH → Option (Int32 × XH)} {x4 : Int32} {y0 : Int64} {y1 : Int64} {h : XH} {r : Int32 × XH} (hl : l.stackTraces = false) (hN : gN G < 2147483648) (hK23 : ∀ (x4 : Int32) (h : XH), LY h → K23 x4 h = some r → XR l G xEL_law (d + 204) (23, [some (.ref 10000000), some (.ref 0), some (.ref 1262), some (.ref 1316), some (.int x4), none, none, none], [], h) (fun C => ∃ v, xRet xEL_law C v ∧ (C.2.2.2 = r.2 ∧ v = some (.int r.1)) ∧ LY r.2)) (L0 : LY h) (hf : b_law_791 G K23 x4 y0 y1 h = some r) : XR l G xEL_law (d + 204) (791, [some (.ref 10000000), some (.ref 0), some (.ref 1262), some (.ref 1316), some (.int x4), none, none, none], [(.long y1), (.long y0)], h) (fun C => ∃ v, xRet xEL_law C v ∧ (C.2.2.2 = r.2 ∧ v = some (.int r.1)) ∧ LY r.2) := by
  unfold b_law_791 at hf
  refine XS.go (s_lcmp rfl) ?_
  refine r_if_eq (tgt := 797) rfl rfl (fun qc2 => ?_) (fun qc2 => ?_)
  · replace hf := xi_pos hf qc2
    exact XR.forget (L2 := [some (.ref 10000000), some (.ref 0), some (.ref 1262), some (.ref 1316), some (.int x4), none, none, none]) ⟨rfl, ⟨rfl, ⟨rfl, ⟨rfl, ⟨rfl, trivial⟩⟩⟩⟩⟩ (kb_law_797 hl hN hK23 L0 hf)
  · replace hf := xi_neg hf qc2
    refine XS.go (s_iconst (v := 0) rfl rfl) ?_
    cases hf
    exact XR.retz rfl rfl (by decide) (fun hret => ⟨_, hret, ⟨rfl, rfl⟩, L0⟩)
def b_law_698 (G : XG) (K23 : Int32 → XH → Option (Int32 × XH)) (x4 : Int32) (h : XH) : Option (Int32 × XH) := (b_law_1263 G K23 x4 h)
set_option maxRecDepth 20000 in
theorem kb_law_698 {l : Launch} {G : XG} {d : Nat} {K23 : Int32 → XH → Option (Int32 × XH)} {x4 : Int32} {h : XH} {r : Int32 × XH} (hl : l.stackTraces = false) (hN : gN G < 2147483648) (hK23 : ∀ (x4 : Int32) (h : XH), LY h → K23 x4 h = some r → XR l G xEL_law (d + 204) (23, [some (.ref 10000000), some (.ref 0), some (.ref 1262), some (.ref 1316), some (.int x4), none, none, none], [], h) (fun C => ∃ v, xRet xEL_law C v ∧ (C.2.2.2 = r.2 ∧ v = some (.int r.1)) ∧ LY r.2)) (L0 : LY h) (hf : b_law_698 G K23 x4 h = some r) : XR l G xEL_law (d + 204) (698, [some (.ref 10000000), some (.ref 0), some (.ref 1262), some (.ref 1316), some (.int x4), none, none, none], [], h) (fun C => ∃ v, xRet xEL_law C v ∧ (C.2.2.2 = r.2 ∧ v = some (.int r.1)) ∧ LY r.2) := by
  unfold b_law_698 at hf
  refine XS.go (s_goto (tgt := 1263) rfl rfl) ?_
  exact XR.forget (L2 := [some (.ref 10000000), some (.ref 0), some (.ref 1262), some (.ref 1316), some (.int x4), none, none, none]) ⟨rfl, ⟨rfl, ⟨rfl, ⟨rfl, ⟨rfl, trivial⟩⟩⟩⟩⟩ (kb_law_1263 hl hN hK23 L0 hf)
def b_law_630 (G : XG) (K23 : Int32 → XH → Option (Int32 × XH)) (x4 : Int32) (h : XH) : Option (Int32 × XH) := (b_law_1263 G K23 x4 h)
set_option maxRecDepth 20000 in
theorem kb_law_630 {l : Launch} {G : XG} {d : Nat} {K23 : Int32 → XH → Option (Int32 × XH)} {x4 : Int32} {h : XH} {r : Int32 × XH} (hl : l.stackTraces = false) (hN : gN G < 2147483648) (hK23 : ∀ (x4 : Int32) (h : XH), LY h → K23 x4 h = some r → XR l G xEL_law (d + 204) (23, [some (.ref 10000000), some (.ref 0), some (.ref 1262), some (.ref 1316), some (.int x4), none, none, none], [], h) (fun C => ∃ v, xRet xEL_law C v ∧ (C.2.2.2 = r.2 ∧ v = some (.int r.1)) ∧ LY r.2)) (L0 : LY h) (hf : b_law_630 G K23 x4 h = some r) : XR l G xEL_law (d + 204) (630, [some (.ref 10000000), some (.ref 0), some (.ref 1262), some (.ref 1316), some (.int x4), none, none, none], [], h) (fun C => ∃ v, xRet xEL_law C v ∧ (C.2.2.2 = r.2 ∧ v = some (.int r.1)) ∧ LY r.2) := by
  unfold b_law_630 at hf
  refine XS.go (s_goto (tgt := 1263) rfl rfl) ?_
  exact XR.forget (L2 := [some (.ref 10000000), some (.ref 0), some (.ref 1262), some (.ref 1316), some (.int x4), none, none, none]) ⟨rfl, ⟨rfl, ⟨rfl, ⟨rfl, ⟨rfl, trivial⟩⟩⟩⟩⟩ (kb_law_1263 hl hN hK23 L0 hf)
def b_law_518 (G : XG) (K23 : Int32 → XH → Option (Int32 × XH)) (x4 : Int32) (y0 : Int32) (y2 : Int32) (h : XH) : Option (Int32 × XH) := (if 0 ≤ (x4 + 2) ∧ (x4 + 2) < nI (gN G) then (Option.bind (f_m_find y2 (gX G (Int32.toNatClampNeg (x4 + 2))) h) fun r4 => (if y0 = r4.1 then (b_law_1263 G K23 x4 r4.2) else (some (0, r4.2)))) else none)
set_option maxRecDepth 20000 in
theorem kb_law_518 {l : Launch} {G : XG} {d : Nat} {K23 : Int32 → XH → Option (Int32 × XH)} {x4 : Int32} {y0 : Int32} {y2 : Int32} {h : XH} {r : Int32 × XH} (hl : l.stackTraces = false) (hN : gN G < 2147483648) (hK23 : ∀ (x4 : Int32) (h : XH), LY h → K23 x4 h = some r → XR l G xEL_law (d + 204) (23, [some (.ref 10000000), some (.ref 0), some (.ref 1262), some (.ref 1316), some (.int x4), none, none, none], [], h) (fun C => ∃ v, xRet xEL_law C v ∧ (C.2.2.2 = r.2 ∧ v = some (.int r.1)) ∧ LY r.2)) (L0 : LY h) (hf : b_law_518 G K23 x4 y0 y2 h = some r) : XR l G xEL_law (d + 204) (518, [some (.ref 10000000), some (.ref 0), some (.ref 1262), some (.ref 1316), some (.int x4), none, none, none], [(.int y2), (.ref 1262), (.int y0)], h) (fun C => ∃ v, xRet xEL_law C v ∧ (C.2.2.2 = r.2 ∧ v = some (.int r.1)) ∧ LY r.2) := by
  unfold b_law_518 at hf
  refine XS.go (s_aloadn rfl rfl rfl) ?_
  refine XS.go (s_iload rfl rfl) ?_
  refine XS.go (s_iconst (v := 2) rfl rfl) ?_
  refine XS.go (s_iadd rfl) ?_
  replace hf := xi_none hf
  obtain ⟨qk3, hf⟩ := hf
  refine XS.go (s_ald0 rfl (inLit (N := gN G) rfl qk3.1 qk3.2 hN)) ?_
  replace hf := xb_some hf
  obtain ⟨r4, e5, hf⟩ := hf
  refine r_callv rfl xvX12_find xm13_94 (kf_m_find (d := d) L0 e5) (LY.lt L0 (by decide)) (LY.k1262 L0) (by decide) rfl rfl (dl (by decide)) (by decide) (Nat.le_of_ble_eq_true rfl) ?_
  rintro _ _ ⟨⟨rfl, rfl⟩, L6⟩
  refine r_icmp_eq (tgt := 1263) rfl rfl (fun qc7 => ?_) (fun qc7 => ?_)
  · replace hf := xi_pos hf qc7
    exact XR.forget (L2 := [some (.ref 10000000), some (.ref 0), some (.ref 1262), some (.ref 1316), some (.int x4), none, none, none]) ⟨rfl, ⟨rfl, ⟨rfl, ⟨rfl, ⟨rfl, trivial⟩⟩⟩⟩⟩ (kb_law_1263 hl hN hK23 L6 hf)
  · replace hf := xi_neg hf qc7
    refine XS.go (s_iconst (v := 0) rfl rfl) ?_
    cases hf
    exact XR.retz rfl rfl (by decide) (fun hret => ⟨_, hret, ⟨rfl, rfl⟩, L6⟩)
def b_law_494 (G : XG) (K23 : Int32 → XH → Option (Int32 × XH)) (x4 : Int32) (y1 : Int32) (h : XH) : Option (Int32 × XH) := (if 0 ≤ (x4 + 2) ∧ (x4 + 2) < nI (gN G) then (Option.bind (f_t_find y1 (gX G (Int32.toNatClampNeg (x4 + 2))) h) fun r9 => (if 0 ≤ (x4 + 1) ∧ (x4 + 1) < nI (gN G) then (if (gX G (Int32.toNatClampNeg (x4 + 1))) = 0 then (b_law_518 G K23 x4 r9.1 0 r9.2) else (b_law_518 G K23 x4 r9.1 1 r9.2)) else none)) else none)
set_option maxRecDepth 20000 in
theorem kb_law_494 {l : Launch} {G : XG} {d : Nat} {K23 : Int32 → XH → Option (Int32 × XH)} {x4 : Int32} {y1 : Int32} {h : XH} {r : Int32 × XH} (hl : l.stackTraces = false) (hN : gN G < 2147483648) (hK23 : ∀ (x4 : Int32) (h : XH), LY h → K23 x4 h = some r → XR l G xEL_law (d + 204) (23, [some (.ref 10000000), some (.ref 0), some (.ref 1262), some (.ref 1316), some (.int x4), none, none, none], [], h) (fun C => ∃ v, xRet xEL_law C v ∧ (C.2.2.2 = r.2 ∧ v = some (.int r.1)) ∧ LY r.2)) (L0 : LY h) (hf : b_law_494 G K23 x4 y1 h = some r) : XR l G xEL_law (d + 204) (494, [some (.ref 10000000), some (.ref 0), some (.ref 1262), some (.ref 1316), some (.int x4), none, none, none], [(.int y1), (.ref 0)], h) (fun C => ∃ v, xRet xEL_law C v ∧ (C.2.2.2 = r.2 ∧ v = some (.int r.1)) ∧ LY r.2) := by
  unfold b_law_494 at hf
  refine XS.go (s_aloadn rfl rfl rfl) ?_
  refine XS.go (s_iload rfl rfl) ?_
  refine XS.go (s_iconst (v := 2) rfl rfl) ?_
  refine XS.go (s_iadd rfl) ?_
  replace hf := xi_none hf
  obtain ⟨qk8, hf⟩ := hf
  refine XS.go (s_ald0 rfl (inLit (N := gN G) rfl qk8.1 qk8.2 hN)) ?_
  replace hf := xb_some hf
  obtain ⟨r9, e10, hf⟩ := hf
  refine r_callv rfl xvX11_find xm13_90 (kf_t_find (d := d) L0 e10) (LY.lt L0 (by decide)) (LY.k0 L0) (by decide) rfl rfl (dl (by decide)) (by decide) (Nat.le_of_ble_eq_true rfl) ?_
  rintro _ _ ⟨⟨rfl, rfl⟩, L11⟩
  refine XS.go (s_aloadn rfl rfl rfl) ?_
  refine XS.go (s_aloadn rfl rfl rfl) ?_
  refine XS.go (s_iload rfl rfl) ?_
  refine XS.go (s_iconst (v := 1) rfl rfl) ?_
  refine XS.go (s_iadd rfl) ?_
  replace hf := xi_none hf
  obtain ⟨qk12, hf⟩ := hf
  refine XS.go (s_ald0 rfl (inLit (N := gN G) rfl qk12.1 qk12.2 hN)) ?_
  refine r_if_eq (tgt := 517) rfl rfl (fun qc13 => ?_) (fun qc13 => ?_)
  · replace hf := xi_pos hf qc13
    refine XS.go (s_iconst (v := 0) rfl rfl) ?_
    exact XR.forget (L2 := [some (.ref 10000000), some (.ref 0), some (.ref 1262), some (.ref 1316), some (.int x4), none, none, none]) ⟨rfl, ⟨rfl, ⟨rfl, ⟨rfl, ⟨rfl, trivial⟩⟩⟩⟩⟩ (kb_law_518 hl hN hK23 L11 hf)
  · replace hf := xi_neg hf qc13
    refine XS.go (s_iconst (v := 1) rfl rfl) ?_
    refine XS.go (s_goto (tgt := 518) rfl rfl) ?_
    exact XR.forget (L2 := [some (.ref 10000000), some (.ref 0), some (.ref 1262), some (.ref 1316), some (.int x4), none, none, none]) ⟨rfl, ⟨rfl, ⟨rfl, ⟨rfl, ⟨rfl, trivial⟩⟩⟩⟩⟩ (kb_law_518 hl hN hK23 L11 hf)
def b_law_415 (G : XG) (K23 : Int32 → XH → Option (Int32 × XH)) (x4 : Int32) (y0 : Int32) (y2 : Int32) (h : XH) : Option (Int32 × XH) := (if 0 ≤ (x4 + 2) ∧ (x4 + 2) < nI (gN G) then (if 0 ≤ (x4 + 3) ∧ (x4 + 3) < nI (gN G) then (if 0 ≤ (x4 + 4) ∧ (x4 + 4) < nI (gN G) then (Option.bind (f_m_field y2 (gX G (Int32.toNatClampNeg (x4 + 2))) (gX G (Int32.toNatClampNeg (x4 + 3))) (gX G (Int32.toNatClampNeg (x4 + 4))) h) fun r17 => (if y0 = r17.1 then (b_law_1263 G K23 x4 r17.2) else (some (0, r17.2)))) else none) else none) else none)
set_option maxRecDepth 20000 in
theorem kb_law_415 {l : Launch} {G : XG} {d : Nat} {K23 : Int32 → XH → Option (Int32 × XH)} {x4 : Int32} {y0 : Int32} {y2 : Int32} {h : XH} {r : Int32 × XH} (hl : l.stackTraces = false) (hN : gN G < 2147483648) (hK23 : ∀ (x4 : Int32) (h : XH), LY h → K23 x4 h = some r → XR l G xEL_law (d + 204) (23, [some (.ref 10000000), some (.ref 0), some (.ref 1262), some (.ref 1316), some (.int x4), none, none, none], [], h) (fun C => ∃ v, xRet xEL_law C v ∧ (C.2.2.2 = r.2 ∧ v = some (.int r.1)) ∧ LY r.2)) (L0 : LY h) (hf : b_law_415 G K23 x4 y0 y2 h = some r) : XR l G xEL_law (d + 204) (415, [some (.ref 10000000), some (.ref 0), some (.ref 1262), some (.ref 1316), some (.int x4), none, none, none], [(.int y2), (.ref 1262), (.int y0)], h) (fun C => ∃ v, xRet xEL_law C v ∧ (C.2.2.2 = r.2 ∧ v = some (.int r.1)) ∧ LY r.2) := by
  unfold b_law_415 at hf
  refine XS.go (s_aloadn rfl rfl rfl) ?_
  refine XS.go (s_iload rfl rfl) ?_
  refine XS.go (s_iconst (v := 2) rfl rfl) ?_
  refine XS.go (s_iadd rfl) ?_
  replace hf := xi_none hf
  obtain ⟨qk14, hf⟩ := hf
  refine XS.go (s_ald0 rfl (inLit (N := gN G) rfl qk14.1 qk14.2 hN)) ?_
  refine XS.go (s_aloadn rfl rfl rfl) ?_
  refine XS.go (s_iload rfl rfl) ?_
  refine XS.go (s_iconst (v := 3) rfl rfl) ?_
  refine XS.go (s_iadd rfl) ?_
  replace hf := xi_none hf
  obtain ⟨qk15, hf⟩ := hf
  refine XS.go (s_ald0 rfl (inLit (N := gN G) rfl qk15.1 qk15.2 hN)) ?_
  refine XS.go (s_aloadn rfl rfl rfl) ?_
  refine XS.go (s_iload rfl rfl) ?_
  refine XS.go (s_iconst (v := 4) rfl rfl) ?_
  refine XS.go (s_iadd rfl) ?_
  replace hf := xi_none hf
  obtain ⟨qk16, hf⟩ := hf
  refine XS.go (s_ald0 rfl (inLit (N := gN G) rfl qk16.1 qk16.2 hN)) ?_
  replace hf := xb_some hf
  obtain ⟨r17, e18, hf⟩ := hf
  refine r_callv rfl xvX12_field xm13_84 (kf_m_field (d := d) L0 e18) (LY.lt L0 (by decide)) (LY.k1262 L0) (by decide) rfl rfl (dl (by decide)) (by decide) (Nat.le_of_ble_eq_true rfl) ?_
  rintro _ _ ⟨⟨rfl, rfl⟩, L19⟩
  refine r_icmp_eq (tgt := 1263) rfl rfl (fun qc20 => ?_) (fun qc20 => ?_)
  · replace hf := xi_pos hf qc20
    exact XR.forget (L2 := [some (.ref 10000000), some (.ref 0), some (.ref 1262), some (.ref 1316), some (.int x4), none, none, none]) ⟨rfl, ⟨rfl, ⟨rfl, ⟨rfl, ⟨rfl, trivial⟩⟩⟩⟩⟩ (kb_law_1263 hl hN hK23 L19 hf)
  · replace hf := xi_neg hf qc20
    refine XS.go (s_iconst (v := 0) rfl rfl) ?_
    cases hf
    exact XR.retz rfl rfl (by decide) (fun hret => ⟨_, hret, ⟨rfl, rfl⟩, L19⟩)
def b_law_379 (G : XG) (K23 : Int32 → XH → Option (Int32 × XH)) (x4 : Int32) (y1 : Int32) (h : XH) : Option (Int32 × XH) := (if 0 ≤ (x4 + 2) ∧ (x4 + 2) < nI (gN G) then (if 0 ≤ (x4 + 3) ∧ (x4 + 3) < nI (gN G) then (if 0 ≤ (x4 + 4) ∧ (x4 + 4) < nI (gN G) then (Option.bind (f_t_field y1 (gX G (Int32.toNatClampNeg (x4 + 2))) (gX G (Int32.toNatClampNeg (x4 + 3))) (gX G (Int32.toNatClampNeg (x4 + 4))) h) fun r24 => (if 0 ≤ (x4 + 1) ∧ (x4 + 1) < nI (gN G) then (if (gX G (Int32.toNatClampNeg (x4 + 1))) = 0 then (b_law_415 G K23 x4 r24.1 0 r24.2) else (b_law_415 G K23 x4 r24.1 1 r24.2)) else none)) else none) else none) else none)
set_option maxRecDepth 20000 in
theorem kb_law_379 {l : Launch} {G : XG} {d : Nat} {K23 : Int32 → XH → Option (Int32 × XH)} {x4 : Int32} {y1 : Int32} {h : XH} {r : Int32 × XH} (hl : l.stackTraces = false) (hN : gN G < 2147483648) (hK23 : ∀ (x4 : Int32) (h : XH), LY h → K23 x4 h = some r → XR l G xEL_law (d + 204) (23, [some (.ref 10000000), some (.ref 0), some (.ref 1262), some (.ref 1316), some (.int x4), none, none, none], [], h) (fun C => ∃ v, xRet xEL_law C v ∧ (C.2.2.2 = r.2 ∧ v = some (.int r.1)) ∧ LY r.2)) (L0 : LY h) (hf : b_law_379 G K23 x4 y1 h = some r) : XR l G xEL_law (d + 204) (379, [some (.ref 10000000), some (.ref 0), some (.ref 1262), some (.ref 1316), some (.int x4), none, none, none], [(.int y1), (.ref 0)], h) (fun C => ∃ v, xRet xEL_law C v ∧ (C.2.2.2 = r.2 ∧ v = some (.int r.1)) ∧ LY r.2) := by
  unfold b_law_379 at hf
  refine XS.go (s_aloadn rfl rfl rfl) ?_
  refine XS.go (s_iload rfl rfl) ?_
  refine XS.go (s_iconst (v := 2) rfl rfl) ?_
  refine XS.go (s_iadd rfl) ?_
  replace hf := xi_none hf
  obtain ⟨qk21, hf⟩ := hf
  refine XS.go (s_ald0 rfl (inLit (N := gN G) rfl qk21.1 qk21.2 hN)) ?_
  refine XS.go (s_aloadn rfl rfl rfl) ?_
  refine XS.go (s_iload rfl rfl) ?_
  refine XS.go (s_iconst (v := 3) rfl rfl) ?_
  refine XS.go (s_iadd rfl) ?_
  replace hf := xi_none hf
  obtain ⟨qk22, hf⟩ := hf
  refine XS.go (s_ald0 rfl (inLit (N := gN G) rfl qk22.1 qk22.2 hN)) ?_
  refine XS.go (s_aloadn rfl rfl rfl) ?_
  refine XS.go (s_iload rfl rfl) ?_
  refine XS.go (s_iconst (v := 4) rfl rfl) ?_
  refine XS.go (s_iadd rfl) ?_
  replace hf := xi_none hf
  obtain ⟨qk23, hf⟩ := hf
  refine XS.go (s_ald0 rfl (inLit (N := gN G) rfl qk23.1 qk23.2 hN)) ?_
  replace hf := xb_some hf
  obtain ⟨r24, e25, hf⟩ := hf
  refine r_callv rfl xvX11_field xm13_80 (kf_t_field (d := d) L0 e25) (LY.lt L0 (by decide)) (LY.k0 L0) (by decide) rfl rfl (dl (by decide)) (by decide) (Nat.le_of_ble_eq_true rfl) ?_
  rintro _ _ ⟨⟨rfl, rfl⟩, L26⟩
  refine XS.go (s_aloadn rfl rfl rfl) ?_
  refine XS.go (s_aloadn rfl rfl rfl) ?_
  refine XS.go (s_iload rfl rfl) ?_
  refine XS.go (s_iconst (v := 1) rfl rfl) ?_
  refine XS.go (s_iadd rfl) ?_
  replace hf := xi_none hf
  obtain ⟨qk27, hf⟩ := hf
  refine XS.go (s_ald0 rfl (inLit (N := gN G) rfl qk27.1 qk27.2 hN)) ?_
  refine r_if_eq (tgt := 414) rfl rfl (fun qc28 => ?_) (fun qc28 => ?_)
  · replace hf := xi_pos hf qc28
    refine XS.go (s_iconst (v := 0) rfl rfl) ?_
    exact XR.forget (L2 := [some (.ref 10000000), some (.ref 0), some (.ref 1262), some (.ref 1316), some (.int x4), none, none, none]) ⟨rfl, ⟨rfl, ⟨rfl, ⟨rfl, ⟨rfl, trivial⟩⟩⟩⟩⟩ (kb_law_415 hl hN hK23 L26 hf)
  · replace hf := xi_neg hf qc28
    refine XS.go (s_iconst (v := 1) rfl rfl) ?_
    refine XS.go (s_goto (tgt := 415) rfl rfl) ?_
    exact XR.forget (L2 := [some (.ref 10000000), some (.ref 0), some (.ref 1262), some (.ref 1316), some (.int x4), none, none, none]) ⟨rfl, ⟨rfl, ⟨rfl, ⟨rfl, ⟨rfl, trivial⟩⟩⟩⟩⟩ (kb_law_415 hl hN hK23 L26 hf)
def b_law_299 (G : XG) (K23 : Int32 → XH → Option (Int32 × XH)) (x4 : Int32) (h : XH) : Option (Int32 × XH) := (b_law_1263 G K23 x4 h)
set_option maxRecDepth 20000 in
theorem kb_law_299 {l : Launch} {G : XG} {d : Nat} {K23 : Int32 → XH → Option (Int32 × XH)} {x4 : Int32} {h : XH} {r : Int32 × XH} (hl : l.stackTraces = false) (hN : gN G < 2147483648) (hK23 : ∀ (x4 : Int32) (h : XH), LY h → K23 x4 h = some r → XR l G xEL_law (d + 204) (23, [some (.ref 10000000), some (.ref 0), some (.ref 1262), some (.ref 1316), some (.int x4), none, none, none], [], h) (fun C => ∃ v, xRet xEL_law C v ∧ (C.2.2.2 = r.2 ∧ v = some (.int r.1)) ∧ LY r.2)) (L0 : LY h) (hf : b_law_299 G K23 x4 h = some r) : XR l G xEL_law (d + 204) (299, [some (.ref 10000000), some (.ref 0), some (.ref 1262), some (.ref 1316), some (.int x4), none, none, none], [], h) (fun C => ∃ v, xRet xEL_law C v ∧ (C.2.2.2 = r.2 ∧ v = some (.int r.1)) ∧ LY r.2) := by
  unfold b_law_299 at hf
  refine XS.go (s_goto (tgt := 1263) rfl rfl) ?_
  exact XR.forget (L2 := [some (.ref 10000000), some (.ref 0), some (.ref 1262), some (.ref 1316), some (.int x4), none, none, none]) ⟨rfl, ⟨rfl, ⟨rfl, ⟨rfl, ⟨rfl, trivial⟩⟩⟩⟩⟩ (kb_law_1263 hl hN hK23 L0 hf)
def s_law_23 (G : XG) (K23 : Int32 → XH → Option (Int32 × XH)) (x4 : Int32) (h : XH) : Option (Int32 × XH) := (if ((nI (gN G)) - 6) < x4 then (some (1, h)) else (if 0 ≤ x4 ∧ x4 < nI (gN G) then (if ((gX G (Int32.toNatClampNeg x4)) &&& 31) = 0 then (if 0 ≤ (x4 + 1) ∧ (x4 + 1) < nI (gN G) then (if 0 ≤ (x4 + 2) ∧ (x4 + 2) < nI (gN G) then (if 0 ≤ (x4 + 3) ∧ (x4 + 3) < nI (gN G) then (if 0 ≤ (x4 + 4) ∧ (x4 + 4) < nI (gN G) then (if 0 ≤ (x4 + 5) ∧ (x4 + 5) < nI (gN G) then (Option.bind (f_t_feed (gX G (Int32.toNatClampNeg (x4 + 1))) (gX G (Int32.toNatClampNeg (x4 + 2))) (gX G (Int32.toNatClampNeg (x4 + 3))) (gX G (Int32.toNatClampNeg (x4 + 4))) (gX G (Int32.toNatClampNeg (x4 + 5))) h) fun r37 => (if 0 ≤ (x4 + 1) ∧ (x4 + 1) < nI (gN G) then (if 0 ≤ (x4 + 2) ∧ (x4 + 2) < nI (gN G) then (if 0 ≤ (x4 + 3) ∧ (x4 + 3) < nI (gN G) then (if 0 ≤ (x4 + 4) ∧ (x4 + 4) < nI (gN G) then (if 0 ≤ (x4 + 5) ∧ (x4 + 5) < nI (gN G) then (Option.bind (f_m_feed (gX G (Int32.toNatClampNeg (x4 + 1))) (gX G (Int32.toNatClampNeg (x4 + 2))) (gX G (Int32.toNatClampNeg (x4 + 3))) (gX G (Int32.toNatClampNeg (x4 + 4))) (gX G (Int32.toNatClampNeg (x4 + 5))) r37.2) fun r45 => (if r37.1 = r45.1 then (b_law_1263 G K23 x4 r45.2) else (some (0, r45.2)))) else none) else none) else none) else none) else none)) else none) else none) else none) else none) else none) else (if ((gX G (Int32.toNatClampNeg x4)) &&& 31) = 1 then (if 0 ≤ (x4 + 1) ∧ (x4 + 1) < nI (gN G) then (Option.bind (f_t_end (gX G (Int32.toNatClampNeg (x4 + 1))) h) fun r50 => (if 0 ≤ (x4 + 1) ∧ (x4 + 1) < nI (gN G) then (Option.bind (f_m_end (gX G (Int32.toNatClampNeg (x4 + 1))) r50.2) fun r54 => (if r50.1 = r54.1 then (b_law_1263 G K23 x4 r54.2) else (some (0, r54.2)))) else none)) else none) else (if ((gX G (Int32.toNatClampNeg x4)) &&& 31) = 2 then (Option.bind (f_L_schema h) fun r58 => (Option.bind (f_m_schema r58.2) fun r61 => (Option.bind (f_m_thrown r61.2) fun r64 => (if r64.1 = r58.1 then (if ¬ r58.1 = 0 then (b_law_299 G K23 x4 r64.2) else (if (lg_cmp (hj r64.2 1316 (Int32.toNatClampNeg 0)) (Int32.toInt64 r61.1)) = 0 then (b_law_299 G K23 x4 r64.2) else (some (0, r64.2)))) else (some (0, r64.2)))))) else (if ((gX G (Int32.toNatClampNeg x4)) &&& 31) = 3 then (if 0 ≤ (x4 + 1) ∧ (x4 + 1) < nI (gN G) then (Option.bind (f_t_fault (gX G (Int32.toNatClampNeg (x4 + 1))) h) fun r71 => (if 0 ≤ (x4 + 1) ∧ (x4 + 1) < nI (gN G) then (Option.bind (f_m_fault (gX G (Int32.toNatClampNeg (x4 + 1))) r71.2) fun r75 => (if r71.1 = r75.1 then (b_law_1263 G K23 x4 r75.2) else (some (0, r75.2)))) else none)) else none) else (if ((gX G (Int32.toNatClampNeg x4)) &&& 31) = 4 then (if 0 ≤ (x4 + 1) ∧ (x4 + 1) < nI (gN G) then (if 0 ≤ (x4 + 2) ∧ (x4 + 2) < nI (gN G) then (Option.bind (f_t_size (gX G (Int32.toNatClampNeg (x4 + 1))) (gX G (Int32.toNatClampNeg (x4 + 2))) h) fun r81 => (if 0 ≤ (x4 + 1) ∧ (x4 + 1) < nI (gN G) then (if 0 ≤ (x4 + 2) ∧ (x4 + 2) < nI (gN G) then (Option.bind (f_m_size (gX G (Int32.toNatClampNeg (x4 + 1))) (gX G (Int32.toNatClampNeg (x4 + 2))) r81.2) fun r86 => (if r81.1 = r86.1 then (b_law_1263 G K23 x4 r86.2) else (some (0, r86.2)))) else none) else none)) else none) else none) else (if ((gX G (Int32.toNatClampNeg x4)) &&& 31) = 5 then (if 0 ≤ (x4 + 1) ∧ (x4 + 1) < nI (gN G) then (if (gX G (Int32.toNatClampNeg (x4 + 1))) = 0 then (b_law_379 G K23 x4 0 h) else (b_law_379 G K23 x4 1 h)) else none) else (if ((gX G (Int32.toNatClampNeg x4)) &&& 31) = 6 then (if 0 ≤ (x4 + 1) ∧ (x4 + 1) < nI (gN G) then (if 0 ≤ (x4 + 2) ∧ (x4 + 2) < nI (gN G) then (Option.bind (f_t_standard (gX G (Int32.toNatClampNeg (x4 + 1))) (gX G (Int32.toNatClampNeg (x4 + 2))) h) fun r94 => (if 0 ≤ (x4 + 1) ∧ (x4 + 1) < nI (gN G) then (if 0 ≤ (x4 + 2) ∧ (x4 + 2) < nI (gN G) then (Option.bind (f_m_standard (gX G (Int32.toNatClampNeg (x4 + 1))) (gX G (Int32.toNatClampNeg (x4 + 2))) r94.2) fun r99 => (if (lg_cmp r94.1 r99.1) = 0 then (b_law_1263 G K23 x4 r99.2) else (some (0, r99.2)))) else none) else none)) else none) else none) else (if ((gX G (Int32.toNatClampNeg x4)) &&& 31) = 7 then (if 0 ≤ (x4 + 1) ∧ (x4 + 1) < nI (gN G) then (if (gX G (Int32.toNatClampNeg (x4 + 1))) = 0 then (b_law_494 G K23 x4 0 h) else (b_law_494 G K23 x4 1 h)) else none) else (if ((gX G (Int32.toNatClampNeg x4)) &&& 31) = 8 then (if 0 ≤ (x4 + 1) ∧ (x4 + 1) < nI (gN G) then (if 0 ≤ (x4 + 2) ∧ (x4 + 2) < nI (gN G) then (Option.bind (f_t_push (((Int32.toInt64 (gX G (Int32.toNatClampNeg (x4 + 1)))) <<< ((Int32.toInt64 32) &&& 63)) ||| ((Int32.toInt64 (gX G (Int32.toNatClampNeg (x4 + 2)))) &&& (4294967295 : Int64))) h) fun r107 => (if 0 ≤ (x4 + 1) ∧ (x4 + 1) < nI (gN G) then (if 0 ≤ (x4 + 2) ∧ (x4 + 2) < nI (gN G) then (Option.bind (f_m_push (((Int32.toInt64 (gX G (Int32.toNatClampNeg (x4 + 1)))) <<< ((Int32.toInt64 32) &&& 63)) ||| ((Int32.toInt64 (gX G (Int32.toNatClampNeg (x4 + 2)))) &&& (4294967295 : Int64))) r107.2) fun r112 => (if r107.1 = r112.1 then (b_law_1263 G K23 x4 r112.2) else (some (0, r112.2)))) else none) else none)) else none) else none) else (if ((gX G (Int32.toNatClampNeg x4)) &&& 31) = 9 then (Option.bind (f_L_text h) fun r116 => (Option.bind (f_m_text r116.2) fun r119 => (Option.bind (f_m_thrown r119.2) fun r122 => (if r122.1 = r116.1 then (if ¬ r116.1 = 0 then (b_law_630 G K23 x4 r122.2) else (if (lg_cmp (hj r122.2 1316 (Int32.toNatClampNeg 0)) (Int32.toInt64 r119.1)) = 0 then (b_law_630 G K23 x4 r122.2) else (some (0, r122.2)))) else (some (0, r122.2)))))) else (if ((gX G (Int32.toNatClampNeg x4)) &&& 31) = 10 then (if 0 ≤ (x4 + 1) ∧ (x4 + 1) < nI (gN G) then (if 0 ≤ (x4 + 2) ∧ (x4 + 2) < nI (gN G) then (Option.bind (f_L_vector (gX G (Int32.toNatClampNeg (x4 + 1))) (gX G (Int32.toNatClampNeg (x4 + 2))) h) fun r130 => (if 0 ≤ (x4 + 1) ∧ (x4 + 1) < nI (gN G) then (if 0 ≤ (x4 + 2) ∧ (x4 + 2) < nI (gN G) then (Option.bind (f_m_vector (gX G (Int32.toNatClampNeg (x4 + 1))) (gX G (Int32.toNatClampNeg (x4 + 2))) r130.2) fun r135 => (Option.bind (f_m_thrown r135.2) fun r138 => (if r138.1 = r130.1 then (if ¬ r130.1 = 0 then (b_law_698 G K23 x4 r138.2) else (if (lg_cmp (hj r138.2 1316 (Int32.toNatClampNeg 0)) (Int32.toInt64 r135.1)) = 0 then (b_law_698 G K23 x4 r138.2) else (some (0, r138.2)))) else (some (0, r138.2))))) else none) else none)) else none) else none) else (if ((gX G (Int32.toNatClampNeg x4)) &&& 31) = 11 then (if 0 ≤ (x4 + 1) ∧ (x4 + 1) < nI (gN G) then (Option.bind (f_L_begin (gX G (Int32.toNatClampNeg (x4 + 1))) h) fun r145 => (if 0 ≤ (x4 + 1) ∧ (x4 + 1) < nI (gN G) then (Option.bind (f_m_begin (gX G (Int32.toNatClampNeg (x4 + 1))) r145.2) fun r149 => (Option.bind (f_m_thrown r149.2) fun r152 => (if r152.1 = r145.1 then (b_law_1263 G K23 x4 r152.2) else (some (0, r152.2))))) else none)) else none) else (if ((gX G (Int32.toNatClampNeg x4)) &&& 31) = 12 then (if 0 ≤ (x4 + 1) ∧ (x4 + 1) < nI (gN G) then (Option.bind (f_L_set (gX G (Int32.toNatClampNeg (x4 + 1))) h) fun r157 => (if 0 ≤ (x4 + 1) ∧ (x4 + 1) < nI (gN G) then (Option.bind (f_m_set (gX G (Int32.toNatClampNeg (x4 + 1))) r157.2) fun r161 => (Option.bind (f_m_thrown r161.2) fun r164 => (if r164.1 = r157.1 then (if ¬ r157.1 = 0 then (b_law_797 G K23 x4 r164.2) else (if r161.1 = 0 then (b_law_791 G K23 x4 (hj r164.2 1316 (Int32.toNatClampNeg 0)) (0 : Int64) r164.2) else (b_law_791 G K23 x4 (hj r164.2 1316 (Int32.toNatClampNeg 0)) (1 : Int64) r164.2))) else (some (0, r164.2))))) else none)) else none) else (if ((gX G (Int32.toNatClampNeg x4)) &&& 31) = 13 then (Option.bind (f_L_ready h) fun r170 => (Option.bind (f_m_ready r170.2) fun r173 => (Option.bind (f_m_thrown r173.2) fun r176 => (if r176.1 = r170.1 then (if ¬ r170.1 = 0 then (b_law_841 G K23 x4 r176.2) else (if (lg_cmp (hj r176.2 1316 (Int32.toNatClampNeg 0)) (Int32.toInt64 r173.1)) = 0 then (b_law_841 G K23 x4 r176.2) else (some (0, r176.2)))) else (some (0, r176.2)))))) else (if ((gX G (Int32.toNatClampNeg x4)) &&& 31) = 14 then (if 0 ≤ (x4 + 1) ∧ (x4 + 1) < nI (gN G) then (Option.bind (f_L_finish (gX G (Int32.toNatClampNeg (x4 + 1))) h) fun r183 => (if 0 ≤ (x4 + 1) ∧ (x4 + 1) < nI (gN G) then (Option.bind (f_m_finish (gX G (Int32.toNatClampNeg (x4 + 1))) r183.2) fun r187 => (Option.bind (f_m_thrown r187.2) fun r190 => (if r190.1 = r183.1 then (if ¬ r183.1 = 0 then (b_law_897 G K23 x4 r190.2) else (if (lg_cmp (hj r190.2 1316 (Int32.toNatClampNeg 0)) (Int32.toInt64 r187.1)) = 0 then (b_law_897 G K23 x4 r190.2) else (some (0, r190.2)))) else (some (0, r190.2))))) else none)) else none) else (if ((gX G (Int32.toNatClampNeg x4)) &&& 31) = 15 then (Option.bind (f_t_clear h) fun r196 => (Option.bind (f_m_clear r196.2) fun r199 => (if r196.1 = r199.1 then (b_law_1263 G K23 x4 r199.2) else (some (0, r199.2))))) else (if ((gX G (Int32.toNatClampNeg x4)) &&& 31) = 16 then (if 0 ≤ (x4 + 1) ∧ (x4 + 1) < nI (gN G) then (Option.bind (f_t_out (gX G (Int32.toNatClampNeg (x4 + 1))) h) fun r204 => (if 0 ≤ (x4 + 1) ∧ (x4 + 1) < nI (gN G) then (Option.bind (f_m_out (gX G (Int32.toNatClampNeg (x4 + 1))) r204.2) fun r208 => (if r204.1 = r208.1 then (b_law_1263 G K23 x4 r208.2) else (some (0, r208.2)))) else none)) else none) else (if ((gX G (Int32.toNatClampNeg x4)) &&& 31) = 17 then (if 0 ≤ (x4 + 1) ∧ (x4 + 1) < nI (gN G) then (Option.bind (f_t_count (gX G (Int32.toNatClampNeg (x4 + 1))) h) fun r213 => (if 0 ≤ (x4 + 1) ∧ (x4 + 1) < nI (gN G) then (Option.bind (f_m_count (gX G (Int32.toNatClampNeg (x4 + 1))) r213.2) fun r217 => (if r213.1 = r217.1 then (b_law_1263 G K23 x4 r217.2) else (some (0, r217.2)))) else none)) else none) else (if ((gX G (Int32.toNatClampNeg x4)) &&& 31) = 18 then (if 0 ≤ (x4 + 1) ∧ (x4 + 1) < nI (gN G) then (Option.bind (f_L_load (gX G (Int32.toNatClampNeg (x4 + 1))) h) fun r222 => (if 0 ≤ (x4 + 1) ∧ (x4 + 1) < nI (gN G) then (Option.bind (f_m_load (gX G (Int32.toNatClampNeg (x4 + 1))) r222.2) fun r226 => (Option.bind (f_m_thrown r226.2) fun r229 => (if r229.1 = r222.1 then (if ¬ r222.1 = 0 then (b_law_1023 G K23 x4 r229.2) else (if r226.1 = 0 then (b_law_1017 G K23 x4 (hj r229.2 1316 (Int32.toNatClampNeg 0)) (0 : Int64) r229.2) else (b_law_1017 G K23 x4 (hj r229.2 1316 (Int32.toNatClampNeg 0)) (1 : Int64) r229.2))) else (some (0, r229.2))))) else none)) else none) else (if ((gX G (Int32.toNatClampNeg x4)) &&& 31) = 19 then (if 0 ≤ (x4 + 1) ∧ (x4 + 1) < nI (gN G) then (Option.bind (f_t_node (gX G (Int32.toNatClampNeg (x4 + 1))) h) fun r236 => (if 0 ≤ (x4 + 1) ∧ (x4 + 1) < nI (gN G) then (Option.bind (f_m_node (gX G (Int32.toNatClampNeg (x4 + 1))) r236.2) fun r240 => (if r236.1 = r240.1 then (b_law_1263 G K23 x4 r240.2) else (some (0, r240.2)))) else none)) else none) else (if ((gX G (Int32.toNatClampNeg x4)) &&& 31) = 20 then (if 0 ≤ (x4 + 1) ∧ (x4 + 1) < nI (gN G) then (Option.bind (f_t_has (gX G (Int32.toNatClampNeg (x4 + 1))) h) fun r245 => (if 0 ≤ (x4 + 1) ∧ (x4 + 1) < nI (gN G) then (Option.bind (f_m_has (gX G (Int32.toNatClampNeg (x4 + 1))) r245.2) fun r249 => (if r245.1 = r249.1 then (b_law_1263 G K23 x4 r249.2) else (some (0, r249.2)))) else none)) else none) else (if ((gX G (Int32.toNatClampNeg x4)) &&& 31) = 21 then (if 0 ≤ (x4 + 1) ∧ (x4 + 1) < nI (gN G) then (Option.bind (f_L_read (gX G (Int32.toNatClampNeg (x4 + 1))) h) fun r254 => (if 0 ≤ (x4 + 1) ∧ (x4 + 1) < nI (gN G) then (Option.bind (f_m_read (gX G (Int32.toNatClampNeg (x4 + 1))) r254.2) fun r258 => (Option.bind (f_m_thrown r258.2) fun r261 => (if r261.1 = r254.1 then (if ¬ r254.1 = 0 then (b_law_1128 G K23 x4 r261.2) else (if (lg_cmp (hj r261.2 1316 (Int32.toNatClampNeg 0)) r258.1) = 0 then (b_law_1128 G K23 x4 r261.2) else (some (0, r261.2)))) else (some (0, r261.2))))) else none)) else none) else (if ((gX G (Int32.toNatClampNeg x4)) &&& 31) = 22 then (if 0 ≤ (x4 + 1) ∧ (x4 + 1) < nI (gN G) then (Option.bind (f_t_into (gX G (Int32.toNatClampNeg (x4 + 1))) h) fun r268 => (if 0 ≤ (x4 + 1) ∧ (x4 + 1) < nI (gN G) then (Option.bind (f_m_into (gX G (Int32.toNatClampNeg (x4 + 1))) r268.2) fun r272 => (if r268.1 = r272.1 then (b_law_1263 G K23 x4 r272.2) else (some (0, r272.2)))) else none)) else none) else (if ((gX G (Int32.toNatClampNeg x4)) &&& 31) = 23 then (Option.bind (f_t_up h) fun r276 => (Option.bind (f_m_up r276.2) fun r279 => (if r276.1 = r279.1 then (b_law_1263 G K23 x4 r279.2) else (some (0, r279.2))))) else (if ((gX G (Int32.toNatClampNeg x4)) &&& 31) = 24 then (if 0 ≤ (x4 + 1) ∧ (x4 + 1) < nI (gN G) then (if 0 ≤ (x4 + 2) ∧ (x4 + 2) < nI (gN G) then (if 0 ≤ (x4 + 3) ∧ (x4 + 3) < nI (gN G) then (Option.bind (f_t_write (gX G (Int32.toNatClampNeg (x4 + 1))) (((Int32.toInt64 (gX G (Int32.toNatClampNeg (x4 + 2)))) <<< ((Int32.toInt64 32) &&& 63)) ||| ((Int32.toInt64 (gX G (Int32.toNatClampNeg (x4 + 3)))) &&& (4294967295 : Int64))) h) fun r286 => (if 0 ≤ (x4 + 1) ∧ (x4 + 1) < nI (gN G) then (if 0 ≤ (x4 + 2) ∧ (x4 + 2) < nI (gN G) then (if 0 ≤ (x4 + 3) ∧ (x4 + 3) < nI (gN G) then (Option.bind (f_m_write (gX G (Int32.toNatClampNeg (x4 + 1))) (((Int32.toInt64 (gX G (Int32.toNatClampNeg (x4 + 2)))) <<< ((Int32.toInt64 32) &&& 63)) ||| ((Int32.toInt64 (gX G (Int32.toNatClampNeg (x4 + 3)))) &&& (4294967295 : Int64))) r286.2) fun r292 => (if r286.1 = r292.1 then (b_law_1263 G K23 x4 r292.2) else (some (0, r292.2)))) else none) else none) else none)) else none) else none) else none) else (if ((gX G (Int32.toNatClampNeg x4)) &&& 31) = 25 then (if 0 ≤ (x4 + 1) ∧ (x4 + 1) < nI (gN G) then (Option.bind (f_t_byteAt (gX G (Int32.toNatClampNeg (x4 + 1))) h) fun r297 => (if 0 ≤ (x4 + 1) ∧ (x4 + 1) < nI (gN G) then (Option.bind (f_m_byteAt (gX G (Int32.toNatClampNeg (x4 + 1))) r297.2) fun r301 => (if r297.1 = r301.1 then (b_law_1263 G K23 x4 r301.2) else (some (0, r301.2)))) else none)) else none) else (b_law_1263 G K23 x4 h))))))))))))))))))))))))))) else none))
set_option maxRecDepth 20000 in
theorem ks_law_23 {l : Launch} {G : XG} {d : Nat} {K23 : Int32 → XH → Option (Int32 × XH)} {x4 : Int32} {h : XH} {r : Int32 × XH} (hl : l.stackTraces = false) (hN : gN G < 2147483648) (hK23 : ∀ (x4 : Int32) (h : XH), LY h → K23 x4 h = some r → XR l G xEL_law (d + 204) (23, [some (.ref 10000000), some (.ref 0), some (.ref 1262), some (.ref 1316), some (.int x4), none, none, none], [], h) (fun C => ∃ v, xRet xEL_law C v ∧ (C.2.2.2 = r.2 ∧ v = some (.int r.1)) ∧ LY r.2)) (L0 : LY h) (hf : s_law_23 G K23 x4 h = some r) : XR l G xEL_law (d + 204) (23, [some (.ref 10000000), some (.ref 0), some (.ref 1262), some (.ref 1316), some (.int x4), none, none, none], [], h) (fun C => ∃ v, xRet xEL_law C v ∧ (C.2.2.2 = r.2 ∧ v = some (.int r.1)) ∧ LY r.2) := by
  unfold s_law_23 at hf
  refine XS.go (s_iload rfl rfl) ?_
  refine XS.go (s_aloadn rfl rfl rfl) ?_
  refine XS.go (s_len0 rfl) ?_
  refine XS.go (s_bipush (v := 6) rfl rfl) ?_
  refine XS.go (s_isub rfl) ?_
  refine r_icmp_gt (tgt := 1269) rfl rfl (fun qc29 => ?_) (fun qc29 => ?_)
  · replace hf := xi_pos hf qc29
    refine XS.go (s_iconst (v := 1) rfl rfl) ?_
    cases hf
    exact XR.retz rfl rfl (by decide) (fun hret => ⟨_, hret, ⟨rfl, rfl⟩, L0⟩)
  · replace hf := xi_neg hf qc29
    refine XS.go (s_aloadn rfl rfl rfl) ?_
    refine XS.go (s_iload rfl rfl) ?_
    replace hf := xi_none hf
    obtain ⟨qk30, hf⟩ := hf
    refine XS.go (s_ald0 rfl (inLit (N := gN G) rfl qk30.1 qk30.2 hN)) ?_
    refine XS.go (s_bipush (v := 31) rfl rfl) ?_
    refine XS.go (s_iand rfl) ?_
    by_cases qs31_0 : ((gX G (Int32.toNatClampNeg x4)) &&& 31) = 0
    · replace hf := xi_pos hf qs31_0
      refine XS.go (s_tswI (tgt := 160) rfl (by rw [qs31_0]; decide) (by rw [qs31_0]; decide) (by rw [qs31_0]; rfl) rfl) ?_
      refine XS.go (s_aloadn rfl rfl rfl) ?_
      refine XS.go (s_aloadn rfl rfl rfl) ?_
      refine XS.go (s_iload rfl rfl) ?_
      refine XS.go (s_iconst (v := 1) rfl rfl) ?_
      refine XS.go (s_iadd rfl) ?_
      replace hf := xi_none hf
      obtain ⟨qk32, hf⟩ := hf
      refine XS.go (s_ald0 rfl (inLit (N := gN G) rfl qk32.1 qk32.2 hN)) ?_
      refine XS.go (s_aloadn rfl rfl rfl) ?_
      refine XS.go (s_iload rfl rfl) ?_
      refine XS.go (s_iconst (v := 2) rfl rfl) ?_
      refine XS.go (s_iadd rfl) ?_
      replace hf := xi_none hf
      obtain ⟨qk33, hf⟩ := hf
      refine XS.go (s_ald0 rfl (inLit (N := gN G) rfl qk33.1 qk33.2 hN)) ?_
      refine XS.go (s_aloadn rfl rfl rfl) ?_
      refine XS.go (s_iload rfl rfl) ?_
      refine XS.go (s_iconst (v := 3) rfl rfl) ?_
      refine XS.go (s_iadd rfl) ?_
      replace hf := xi_none hf
      obtain ⟨qk34, hf⟩ := hf
      refine XS.go (s_ald0 rfl (inLit (N := gN G) rfl qk34.1 qk34.2 hN)) ?_
      refine XS.go (s_aloadn rfl rfl rfl) ?_
      refine XS.go (s_iload rfl rfl) ?_
      refine XS.go (s_iconst (v := 4) rfl rfl) ?_
      refine XS.go (s_iadd rfl) ?_
      replace hf := xi_none hf
      obtain ⟨qk35, hf⟩ := hf
      refine XS.go (s_ald0 rfl (inLit (N := gN G) rfl qk35.1 qk35.2 hN)) ?_
      refine XS.go (s_aloadn rfl rfl rfl) ?_
      refine XS.go (s_iload rfl rfl) ?_
      refine XS.go (s_iconst (v := 5) rfl rfl) ?_
      refine XS.go (s_iadd rfl) ?_
      replace hf := xi_none hf
      obtain ⟨qk36, hf⟩ := hf
      refine XS.go (s_ald0 rfl (inLit (N := gN G) rfl qk36.1 qk36.2 hN)) ?_
      replace hf := xb_some hf
      obtain ⟨r37, e38, hf⟩ := hf
      refine r_callv rfl xvX11_feed xm13_54 (kf_t_feed (d := d) L0 e38) (LY.lt L0 (by decide)) (LY.k0 L0) (by decide) rfl rfl (dl (by decide)) (by decide) (Nat.le_of_ble_eq_true rfl) ?_
      rintro _ _ ⟨⟨rfl, rfl⟩, L39⟩
      refine XS.go (s_aloadn rfl rfl rfl) ?_
      refine XS.go (s_aloadn rfl rfl rfl) ?_
      refine XS.go (s_iload rfl rfl) ?_
      refine XS.go (s_iconst (v := 1) rfl rfl) ?_
      refine XS.go (s_iadd rfl) ?_
      replace hf := xi_none hf
      obtain ⟨qk40, hf⟩ := hf
      refine XS.go (s_ald0 rfl (inLit (N := gN G) rfl qk40.1 qk40.2 hN)) ?_
      refine XS.go (s_aloadn rfl rfl rfl) ?_
      refine XS.go (s_iload rfl rfl) ?_
      refine XS.go (s_iconst (v := 2) rfl rfl) ?_
      refine XS.go (s_iadd rfl) ?_
      replace hf := xi_none hf
      obtain ⟨qk41, hf⟩ := hf
      refine XS.go (s_ald0 rfl (inLit (N := gN G) rfl qk41.1 qk41.2 hN)) ?_
      refine XS.go (s_aloadn rfl rfl rfl) ?_
      refine XS.go (s_iload rfl rfl) ?_
      refine XS.go (s_iconst (v := 3) rfl rfl) ?_
      refine XS.go (s_iadd rfl) ?_
      replace hf := xi_none hf
      obtain ⟨qk42, hf⟩ := hf
      refine XS.go (s_ald0 rfl (inLit (N := gN G) rfl qk42.1 qk42.2 hN)) ?_
      refine XS.go (s_aloadn rfl rfl rfl) ?_
      refine XS.go (s_iload rfl rfl) ?_
      refine XS.go (s_iconst (v := 4) rfl rfl) ?_
      refine XS.go (s_iadd rfl) ?_
      replace hf := xi_none hf
      obtain ⟨qk43, hf⟩ := hf
      refine XS.go (s_ald0 rfl (inLit (N := gN G) rfl qk43.1 qk43.2 hN)) ?_
      refine XS.go (s_aloadn rfl rfl rfl) ?_
      refine XS.go (s_iload rfl rfl) ?_
      refine XS.go (s_iconst (v := 5) rfl rfl) ?_
      refine XS.go (s_iadd rfl) ?_
      replace hf := xi_none hf
      obtain ⟨qk44, hf⟩ := hf
      refine XS.go (s_ald0 rfl (inLit (N := gN G) rfl qk44.1 qk44.2 hN)) ?_
      replace hf := xb_some hf
      obtain ⟨r45, e46, hf⟩ := hf
      refine r_callv rfl xvX12_feed xm13_58 (kf_m_feed (d := d) L39 e46) (LY.lt L39 (by decide)) (LY.k1262 L39) (by decide) rfl rfl (dl0 (by decide)) (by decide) (Nat.le_of_ble_eq_true rfl) ?_
      rintro _ _ ⟨⟨rfl, rfl⟩, L47⟩
      refine r_icmp_eq (tgt := 1263) rfl rfl (fun qc48 => ?_) (fun qc48 => ?_)
      · replace hf := xi_pos hf qc48
        exact XR.forget (L2 := [some (.ref 10000000), some (.ref 0), some (.ref 1262), some (.ref 1316), some (.int x4), none, none, none]) ⟨rfl, ⟨rfl, ⟨rfl, ⟨rfl, ⟨rfl, trivial⟩⟩⟩⟩⟩ (kb_law_1263 hl hN hK23 L47 hf)
      · replace hf := xi_neg hf qc48
        refine XS.go (s_iconst (v := 0) rfl rfl) ?_
        cases hf
        exact XR.retz rfl rfl (by decide) (fun hret => ⟨_, hret, ⟨rfl, rfl⟩, L47⟩)
    replace hf := xi_neg hf qs31_0
    by_cases qs31_1 : ((gX G (Int32.toNatClampNeg x4)) &&& 31) = 1
    · replace hf := xi_pos hf qs31_1
      refine XS.go (s_tswI (tgt := 233) rfl (by rw [qs31_1]; decide) (by rw [qs31_1]; decide) (by rw [qs31_1]; rfl) rfl) ?_
      refine XS.go (s_aloadn rfl rfl rfl) ?_
      refine XS.go (s_aloadn rfl rfl rfl) ?_
      refine XS.go (s_iload rfl rfl) ?_
      refine XS.go (s_iconst (v := 1) rfl rfl) ?_
      refine XS.go (s_iadd rfl) ?_
      replace hf := xi_none hf
      obtain ⟨qk49, hf⟩ := hf
      refine XS.go (s_ald0 rfl (inLit (N := gN G) rfl qk49.1 qk49.2 hN)) ?_
      replace hf := xb_some hf
      obtain ⟨r50, e51, hf⟩ := hf
      refine r_callv rfl xvX11_end xm13_59 (kf_t_end (d := d) L0 e51) (LY.lt L0 (by decide)) (LY.k0 L0) (by decide) rfl rfl (dl0 (by decide)) (by decide) (Nat.le_of_ble_eq_true rfl) ?_
      rintro _ _ ⟨⟨rfl, rfl⟩, L52⟩
      refine XS.go (s_aloadn rfl rfl rfl) ?_
      refine XS.go (s_aloadn rfl rfl rfl) ?_
      refine XS.go (s_iload rfl rfl) ?_
      refine XS.go (s_iconst (v := 1) rfl rfl) ?_
      refine XS.go (s_iadd rfl) ?_
      replace hf := xi_none hf
      obtain ⟨qk53, hf⟩ := hf
      refine XS.go (s_ald0 rfl (inLit (N := gN G) rfl qk53.1 qk53.2 hN)) ?_
      replace hf := xb_some hf
      obtain ⟨r54, e55, hf⟩ := hf
      refine r_callv rfl xvX12_end xm13_62 (kf_m_end (d := d) L52 e55) (LY.lt L52 (by decide)) (LY.k1262 L52) (by decide) rfl rfl (dl0 (by decide)) (by decide) (Nat.le_of_ble_eq_true rfl) ?_
      rintro _ _ ⟨⟨rfl, rfl⟩, L56⟩
      refine r_icmp_eq (tgt := 1263) rfl rfl (fun qc57 => ?_) (fun qc57 => ?_)
      · replace hf := xi_pos hf qc57
        exact XR.forget (L2 := [some (.ref 10000000), some (.ref 0), some (.ref 1262), some (.ref 1316), some (.int x4), none, none, none]) ⟨rfl, ⟨rfl, ⟨rfl, ⟨rfl, ⟨rfl, trivial⟩⟩⟩⟩⟩ (kb_law_1263 hl hN hK23 L56 hf)
      · replace hf := xi_neg hf qc57
        refine XS.go (s_iconst (v := 0) rfl rfl) ?_
        cases hf
        exact XR.retz rfl rfl (by decide) (fun hret => ⟨_, hret, ⟨rfl, rfl⟩, L56⟩)
    replace hf := xi_neg hf qs31_1
    by_cases qs31_2 : ((gX G (Int32.toNatClampNeg x4)) &&& 31) = 2
    · replace hf := xi_pos hf qs31_2
      refine XS.go (s_tswI (tgt := 258) rfl (by rw [qs31_2]; decide) (by rw [qs31_2]; decide) (by rw [qs31_2]; rfl) rfl) ?_
      refine XS.go (s_aloadn rfl rfl rfl) ?_
      refine XS.go (s_aloadn rfl rfl rfl) ?_
      replace hf := xb_some hf
      obtain ⟨r58, e59, hf⟩ := hf
      refine r_callsW rfl xwL_schema xm13_63 (kf_L_schema (d := d) hl L0 e59) rfl rfl (dl (by decide)) (by decide) (Nat.le_of_ble_eq_true rfl) ?_
      rintro _ _ ⟨⟨rfl, rfl⟩, L60⟩
      refine XS.go (XS.lcl (L3 := [some (.ref 10000000), some (.ref 0), some (.ref 1262), some (.ref 1316), some (.int x4), some (.int r58.1), none, none]) (s_istore rfl (Nat.le_of_ble_eq_true rfl)) rfl) ?_
      refine XS.go (s_aloadn rfl rfl rfl) ?_
      replace hf := xb_some hf
      obtain ⟨r61, e62, hf⟩ := hf
      refine r_callv rfl xvX12_schema xm13_68 (kf_m_schema (d := d) L60 e62) (LY.lt L60 (by decide)) (LY.k1262 L60) (by decide) rfl rfl (dl (by decide)) (by decide) (Nat.le_of_ble_eq_true rfl) ?_
      rintro _ _ ⟨⟨rfl, rfl⟩, L63⟩
      refine XS.go (XS.lcl (L3 := [some (.ref 10000000), some (.ref 0), some (.ref 1262), some (.ref 1316), some (.int x4), some (.int r58.1), some (.int r61.1), none]) (s_istore rfl (Nat.le_of_ble_eq_true rfl)) rfl) ?_
      refine XS.go (s_aloadn rfl rfl rfl) ?_
      replace hf := xb_some hf
      obtain ⟨r64, e65, hf⟩ := hf
      refine r_callv rfl xvX12_thrown xm13_69 (kf_m_thrown (d := d) L63 e65) (LY.lt L63 (by decide)) (LY.k1262 L63) (by decide) rfl rfl (dl0 (by decide)) (by decide) (Nat.le_of_ble_eq_true rfl) ?_
      rintro _ _ ⟨⟨rfl, rfl⟩, L66⟩
      refine XS.go (s_iload rfl rfl) ?_
      refine r_icmp_eq (tgt := 282) rfl rfl (fun qc67 => ?_) (fun qc67 => ?_)
      · replace hf := xi_pos hf qc67
        refine XS.go (s_iload rfl rfl) ?_
        refine r_if_ne (tgt := 299) rfl rfl (fun qc68 => ?_) (fun qc68 => ?_)
        · replace hf := xi_pos hf qc68
          exact XR.forget (L2 := [some (.ref 10000000), some (.ref 0), some (.ref 1262), some (.ref 1316), some (.int x4), none, none, none]) ⟨rfl, ⟨rfl, ⟨rfl, ⟨rfl, ⟨rfl, trivial⟩⟩⟩⟩⟩ (kb_law_299 hl hN hK23 L66 hf)
        · replace hf := xi_neg hf qc68
          refine XS.go (s_aloadn rfl rfl rfl) ?_
          refine XS.go (s_iconst (v := 0) rfl rfl) ?_
          refine XS.go (s_lalde rfl (LY.lt L66 (by decide)) (LY.k1316 L66) (inN (k := 0) (LY.n1316 L66) rfl (by decide) (by decide)) rfl) ?_
          refine XS.go (s_iload rfl rfl) ?_
          refine XS.go (s_i2l rfl) ?_
          refine XS.go (s_lcmp rfl) ?_
          refine r_if_eq (tgt := 299) rfl rfl (fun qc69 => ?_) (fun qc69 => ?_)
          · replace hf := xi_pos hf qc69
            exact XR.forget (L2 := [some (.ref 10000000), some (.ref 0), some (.ref 1262), some (.ref 1316), some (.int x4), none, none, none]) ⟨rfl, ⟨rfl, ⟨rfl, ⟨rfl, ⟨rfl, trivial⟩⟩⟩⟩⟩ (kb_law_299 hl hN hK23 L66 hf)
          · replace hf := xi_neg hf qc69
            refine XS.go (s_iconst (v := 0) rfl rfl) ?_
            cases hf
            exact XR.retz rfl rfl (by decide) (fun hret => ⟨_, hret, ⟨rfl, rfl⟩, L66⟩)
      · replace hf := xi_neg hf qc67
        refine XS.go (s_iconst (v := 0) rfl rfl) ?_
        cases hf
        exact XR.retz rfl rfl (by decide) (fun hret => ⟨_, hret, ⟨rfl, rfl⟩, L66⟩)
    replace hf := xi_neg hf qs31_2
    by_cases qs31_3 : ((gX G (Int32.toNatClampNeg x4)) &&& 31) = 3
    · replace hf := xi_pos hf qs31_3
      refine XS.go (s_tswI (tgt := 302) rfl (by rw [qs31_3]; decide) (by rw [qs31_3]; decide) (by rw [qs31_3]; rfl) rfl) ?_
      refine XS.go (s_aloadn rfl rfl rfl) ?_
      refine XS.go (s_aloadn rfl rfl rfl) ?_
      refine XS.go (s_iload rfl rfl) ?_
      refine XS.go (s_iconst (v := 1) rfl rfl) ?_
      refine XS.go (s_iadd rfl) ?_
      replace hf := xi_none hf
      obtain ⟨qk70, hf⟩ := hf
      refine XS.go (s_ald0 rfl (inLit (N := gN G) rfl qk70.1 qk70.2 hN)) ?_
      replace hf := xb_some hf
      obtain ⟨r71, e72, hf⟩ := hf
      refine r_callv rfl xvX11_fault xm13_72 (kf_t_fault (d := d) L0 e72) (LY.lt L0 (by decide)) (LY.k0 L0) (by decide) rfl rfl (dl0 (by decide)) (by decide) (Nat.le_of_ble_eq_true rfl) ?_
      rintro _ _ ⟨⟨rfl, rfl⟩, L73⟩
      refine XS.go (s_aloadn rfl rfl rfl) ?_
      refine XS.go (s_aloadn rfl rfl rfl) ?_
      refine XS.go (s_iload rfl rfl) ?_
      refine XS.go (s_iconst (v := 1) rfl rfl) ?_
      refine XS.go (s_iadd rfl) ?_
      replace hf := xi_none hf
      obtain ⟨qk74, hf⟩ := hf
      refine XS.go (s_ald0 rfl (inLit (N := gN G) rfl qk74.1 qk74.2 hN)) ?_
      replace hf := xb_some hf
      obtain ⟨r75, e76, hf⟩ := hf
      refine r_callv rfl xvX12_fault xm13_75 (kf_m_fault (d := d) L73 e76) (LY.lt L73 (by decide)) (LY.k1262 L73) (by decide) rfl rfl (dl0 (by decide)) (by decide) (Nat.le_of_ble_eq_true rfl) ?_
      rintro _ _ ⟨⟨rfl, rfl⟩, L77⟩
      refine r_icmp_eq (tgt := 1263) rfl rfl (fun qc78 => ?_) (fun qc78 => ?_)
      · replace hf := xi_pos hf qc78
        exact XR.forget (L2 := [some (.ref 10000000), some (.ref 0), some (.ref 1262), some (.ref 1316), some (.int x4), none, none, none]) ⟨rfl, ⟨rfl, ⟨rfl, ⟨rfl, ⟨rfl, trivial⟩⟩⟩⟩⟩ (kb_law_1263 hl hN hK23 L77 hf)
      · replace hf := xi_neg hf qc78
        refine XS.go (s_iconst (v := 0) rfl rfl) ?_
        cases hf
        exact XR.retz rfl rfl (by decide) (fun hret => ⟨_, hret, ⟨rfl, rfl⟩, L77⟩)
    replace hf := xi_neg hf qs31_3
    by_cases qs31_4 : ((gX G (Int32.toNatClampNeg x4)) &&& 31) = 4
    · replace hf := xi_pos hf qs31_4
      refine XS.go (s_tswI (tgt := 327) rfl (by rw [qs31_4]; decide) (by rw [qs31_4]; decide) (by rw [qs31_4]; rfl) rfl) ?_
      refine XS.go (s_aloadn rfl rfl rfl) ?_
      refine XS.go (s_aloadn rfl rfl rfl) ?_
      refine XS.go (s_iload rfl rfl) ?_
      refine XS.go (s_iconst (v := 1) rfl rfl) ?_
      refine XS.go (s_iadd rfl) ?_
      replace hf := xi_none hf
      obtain ⟨qk79, hf⟩ := hf
      refine XS.go (s_ald0 rfl (inLit (N := gN G) rfl qk79.1 qk79.2 hN)) ?_
      refine XS.go (s_aloadn rfl rfl rfl) ?_
      refine XS.go (s_iload rfl rfl) ?_
      refine XS.go (s_iconst (v := 2) rfl rfl) ?_
      refine XS.go (s_iadd rfl) ?_
      replace hf := xi_none hf
      obtain ⟨qk80, hf⟩ := hf
      refine XS.go (s_ald0 rfl (inLit (N := gN G) rfl qk80.1 qk80.2 hN)) ?_
      replace hf := xb_some hf
      obtain ⟨r81, e82, hf⟩ := hf
      refine r_callv rfl xvX11_size xm13_76 (kf_t_size (d := d) L0 e82) (LY.lt L0 (by decide)) (LY.k0 L0) (by decide) rfl rfl (dl (by decide)) (by decide) (Nat.le_of_ble_eq_true rfl) ?_
      rintro _ _ ⟨⟨rfl, rfl⟩, L83⟩
      refine XS.go (s_aloadn rfl rfl rfl) ?_
      refine XS.go (s_aloadn rfl rfl rfl) ?_
      refine XS.go (s_iload rfl rfl) ?_
      refine XS.go (s_iconst (v := 1) rfl rfl) ?_
      refine XS.go (s_iadd rfl) ?_
      replace hf := xi_none hf
      obtain ⟨qk84, hf⟩ := hf
      refine XS.go (s_ald0 rfl (inLit (N := gN G) rfl qk84.1 qk84.2 hN)) ?_
      refine XS.go (s_aloadn rfl rfl rfl) ?_
      refine XS.go (s_iload rfl rfl) ?_
      refine XS.go (s_iconst (v := 2) rfl rfl) ?_
      refine XS.go (s_iadd rfl) ?_
      replace hf := xi_none hf
      obtain ⟨qk85, hf⟩ := hf
      refine XS.go (s_ald0 rfl (inLit (N := gN G) rfl qk85.1 qk85.2 hN)) ?_
      replace hf := xb_some hf
      obtain ⟨r86, e87, hf⟩ := hf
      refine r_callv rfl xvX12_size xm13_79 (kf_m_size (d := d) L83 e87) (LY.lt L83 (by decide)) (LY.k1262 L83) (by decide) rfl rfl (dl (by decide)) (by decide) (Nat.le_of_ble_eq_true rfl) ?_
      rintro _ _ ⟨⟨rfl, rfl⟩, L88⟩
      refine r_icmp_eq (tgt := 1263) rfl rfl (fun qc89 => ?_) (fun qc89 => ?_)
      · replace hf := xi_pos hf qc89
        exact XR.forget (L2 := [some (.ref 10000000), some (.ref 0), some (.ref 1262), some (.ref 1316), some (.int x4), none, none, none]) ⟨rfl, ⟨rfl, ⟨rfl, ⟨rfl, ⟨rfl, trivial⟩⟩⟩⟩⟩ (kb_law_1263 hl hN hK23 L88 hf)
      · replace hf := xi_neg hf qc89
        refine XS.go (s_iconst (v := 0) rfl rfl) ?_
        cases hf
        exact XR.retz rfl rfl (by decide) (fun hret => ⟨_, hret, ⟨rfl, rfl⟩, L88⟩)
    replace hf := xi_neg hf qs31_4
    by_cases qs31_5 : ((gX G (Int32.toNatClampNeg x4)) &&& 31) = 5
    · replace hf := xi_pos hf qs31_5
      refine XS.go (s_tswI (tgt := 364) rfl (by rw [qs31_5]; decide) (by rw [qs31_5]; decide) (by rw [qs31_5]; rfl) rfl) ?_
      refine XS.go (s_aloadn rfl rfl rfl) ?_
      refine XS.go (s_aloadn rfl rfl rfl) ?_
      refine XS.go (s_iload rfl rfl) ?_
      refine XS.go (s_iconst (v := 1) rfl rfl) ?_
      refine XS.go (s_iadd rfl) ?_
      replace hf := xi_none hf
      obtain ⟨qk90, hf⟩ := hf
      refine XS.go (s_ald0 rfl (inLit (N := gN G) rfl qk90.1 qk90.2 hN)) ?_
      refine r_if_eq (tgt := 378) rfl rfl (fun qc91 => ?_) (fun qc91 => ?_)
      · replace hf := xi_pos hf qc91
        refine XS.go (s_iconst (v := 0) rfl rfl) ?_
        exact XR.forget (L2 := [some (.ref 10000000), some (.ref 0), some (.ref 1262), some (.ref 1316), some (.int x4), none, none, none]) ⟨rfl, ⟨rfl, ⟨rfl, ⟨rfl, ⟨rfl, trivial⟩⟩⟩⟩⟩ (kb_law_379 hl hN hK23 L0 hf)
      · replace hf := xi_neg hf qc91
        refine XS.go (s_iconst (v := 1) rfl rfl) ?_
        refine XS.go (s_goto (tgt := 379) rfl rfl) ?_
        exact XR.forget (L2 := [some (.ref 10000000), some (.ref 0), some (.ref 1262), some (.ref 1316), some (.int x4), none, none, none]) ⟨rfl, ⟨rfl, ⟨rfl, ⟨rfl, ⟨rfl, trivial⟩⟩⟩⟩⟩ (kb_law_379 hl hN hK23 L0 hf)
    replace hf := xi_neg hf qs31_5
    by_cases qs31_6 : ((gX G (Int32.toNatClampNeg x4)) &&& 31) = 6
    · replace hf := xi_pos hf qs31_6
      refine XS.go (s_tswI (tgt := 441) rfl (by rw [qs31_6]; decide) (by rw [qs31_6]; decide) (by rw [qs31_6]; rfl) rfl) ?_
      refine XS.go (s_aloadn rfl rfl rfl) ?_
      refine XS.go (s_aloadn rfl rfl rfl) ?_
      refine XS.go (s_iload rfl rfl) ?_
      refine XS.go (s_iconst (v := 1) rfl rfl) ?_
      refine XS.go (s_iadd rfl) ?_
      replace hf := xi_none hf
      obtain ⟨qk92, hf⟩ := hf
      refine XS.go (s_ald0 rfl (inLit (N := gN G) rfl qk92.1 qk92.2 hN)) ?_
      refine XS.go (s_aloadn rfl rfl rfl) ?_
      refine XS.go (s_iload rfl rfl) ?_
      refine XS.go (s_iconst (v := 2) rfl rfl) ?_
      refine XS.go (s_iadd rfl) ?_
      replace hf := xi_none hf
      obtain ⟨qk93, hf⟩ := hf
      refine XS.go (s_ald0 rfl (inLit (N := gN G) rfl qk93.1 qk93.2 hN)) ?_
      replace hf := xb_some hf
      obtain ⟨r94, e95, hf⟩ := hf
      refine r_callv rfl xvX11_standard xm13_85 (kf_t_standard (d := d) L0 e95) (LY.lt L0 (by decide)) (LY.k0 L0) (by decide) rfl rfl (dl (by decide)) (by decide) (Nat.le_of_ble_eq_true rfl) ?_
      rintro _ _ ⟨⟨rfl, rfl⟩, L96⟩
      refine XS.go (s_aloadn rfl rfl rfl) ?_
      refine XS.go (s_aloadn rfl rfl rfl) ?_
      refine XS.go (s_iload rfl rfl) ?_
      refine XS.go (s_iconst (v := 1) rfl rfl) ?_
      refine XS.go (s_iadd rfl) ?_
      replace hf := xi_none hf
      obtain ⟨qk97, hf⟩ := hf
      refine XS.go (s_ald0 rfl (inLit (N := gN G) rfl qk97.1 qk97.2 hN)) ?_
      refine XS.go (s_aloadn rfl rfl rfl) ?_
      refine XS.go (s_iload rfl rfl) ?_
      refine XS.go (s_iconst (v := 2) rfl rfl) ?_
      refine XS.go (s_iadd rfl) ?_
      replace hf := xi_none hf
      obtain ⟨qk98, hf⟩ := hf
      refine XS.go (s_ald0 rfl (inLit (N := gN G) rfl qk98.1 qk98.2 hN)) ?_
      replace hf := xb_some hf
      obtain ⟨r99, e100, hf⟩ := hf
      refine r_callv rfl xvX12_standard xm13_89 (kf_m_standard (d := d) L96 e100) (LY.lt L96 (by decide)) (LY.k1262 L96) (by decide) rfl rfl (dl (by decide)) (by decide) (Nat.le_of_ble_eq_true rfl) ?_
      rintro _ _ ⟨⟨rfl, rfl⟩, L101⟩
      refine XS.go (s_lcmp rfl) ?_
      refine r_if_eq (tgt := 1263) rfl rfl (fun qc102 => ?_) (fun qc102 => ?_)
      · replace hf := xi_pos hf qc102
        exact XR.forget (L2 := [some (.ref 10000000), some (.ref 0), some (.ref 1262), some (.ref 1316), some (.int x4), none, none, none]) ⟨rfl, ⟨rfl, ⟨rfl, ⟨rfl, ⟨rfl, trivial⟩⟩⟩⟩⟩ (kb_law_1263 hl hN hK23 L101 hf)
      · replace hf := xi_neg hf qc102
        refine XS.go (s_iconst (v := 0) rfl rfl) ?_
        cases hf
        exact XR.retz rfl rfl (by decide) (fun hret => ⟨_, hret, ⟨rfl, rfl⟩, L101⟩)
    replace hf := xi_neg hf qs31_6
    by_cases qs31_7 : ((gX G (Int32.toNatClampNeg x4)) &&& 31) = 7
    · replace hf := xi_pos hf qs31_7
      refine XS.go (s_tswI (tgt := 479) rfl (by rw [qs31_7]; decide) (by rw [qs31_7]; decide) (by rw [qs31_7]; rfl) rfl) ?_
      refine XS.go (s_aloadn rfl rfl rfl) ?_
      refine XS.go (s_aloadn rfl rfl rfl) ?_
      refine XS.go (s_iload rfl rfl) ?_
      refine XS.go (s_iconst (v := 1) rfl rfl) ?_
      refine XS.go (s_iadd rfl) ?_
      replace hf := xi_none hf
      obtain ⟨qk103, hf⟩ := hf
      refine XS.go (s_ald0 rfl (inLit (N := gN G) rfl qk103.1 qk103.2 hN)) ?_
      refine r_if_eq (tgt := 493) rfl rfl (fun qc104 => ?_) (fun qc104 => ?_)
      · replace hf := xi_pos hf qc104
        refine XS.go (s_iconst (v := 0) rfl rfl) ?_
        exact XR.forget (L2 := [some (.ref 10000000), some (.ref 0), some (.ref 1262), some (.ref 1316), some (.int x4), none, none, none]) ⟨rfl, ⟨rfl, ⟨rfl, ⟨rfl, ⟨rfl, trivial⟩⟩⟩⟩⟩ (kb_law_494 hl hN hK23 L0 hf)
      · replace hf := xi_neg hf qc104
        refine XS.go (s_iconst (v := 1) rfl rfl) ?_
        refine XS.go (s_goto (tgt := 494) rfl rfl) ?_
        exact XR.forget (L2 := [some (.ref 10000000), some (.ref 0), some (.ref 1262), some (.ref 1316), some (.int x4), none, none, none]) ⟨rfl, ⟨rfl, ⟨rfl, ⟨rfl, ⟨rfl, trivial⟩⟩⟩⟩⟩ (kb_law_494 hl hN hK23 L0 hf)
    replace hf := xi_neg hf qs31_7
    by_cases qs31_8 : ((gX G (Int32.toNatClampNeg x4)) &&& 31) = 8
    · replace hf := xi_pos hf qs31_8
      refine XS.go (s_tswI (tgt := 532) rfl (by rw [qs31_8]; decide) (by rw [qs31_8]; decide) (by rw [qs31_8]; rfl) rfl) ?_
      refine XS.go (s_aloadn rfl rfl rfl) ?_
      refine XS.go (s_aloadn rfl rfl rfl) ?_
      refine XS.go (s_iload rfl rfl) ?_
      refine XS.go (s_iconst (v := 1) rfl rfl) ?_
      refine XS.go (s_iadd rfl) ?_
      replace hf := xi_none hf
      obtain ⟨qk105, hf⟩ := hf
      refine XS.go (s_ald0 rfl (inLit (N := gN G) rfl qk105.1 qk105.2 hN)) ?_
      refine XS.go (s_i2l rfl) ?_
      refine XS.go (s_bipush (v := 32) rfl rfl) ?_
      refine XS.go (s_lshl rfl) ?_
      refine XS.go (s_aloadn rfl rfl rfl) ?_
      refine XS.go (s_iload rfl rfl) ?_
      refine XS.go (s_iconst (v := 2) rfl rfl) ?_
      refine XS.go (s_iadd rfl) ?_
      replace hf := xi_none hf
      obtain ⟨qk106, hf⟩ := hf
      refine XS.go (s_ald0 rfl (inLit (N := gN G) rfl qk106.1 qk106.2 hN)) ?_
      refine XS.go (s_i2l rfl) ?_
      refine XS.go (s_ldc2 rfl (lg_10 61 rfl rfl)) ?_
      refine XS.go (s_land rfl) ?_
      refine XS.go (s_lor rfl) ?_
      replace hf := xb_some hf
      obtain ⟨r107, e108, hf⟩ := hf
      refine r_callv rfl xvX11_push xm13_97 (kf_t_push (d := d) L0 e108) (LY.lt L0 (by decide)) (LY.k0 L0) (by decide) rfl rfl (dl (by decide)) (by decide) (Nat.le_of_ble_eq_true rfl) ?_
      rintro _ _ ⟨⟨rfl, rfl⟩, L109⟩
      refine XS.go (s_aloadn rfl rfl rfl) ?_
      refine XS.go (s_aloadn rfl rfl rfl) ?_
      refine XS.go (s_iload rfl rfl) ?_
      refine XS.go (s_iconst (v := 1) rfl rfl) ?_
      refine XS.go (s_iadd rfl) ?_
      replace hf := xi_none hf
      obtain ⟨qk110, hf⟩ := hf
      refine XS.go (s_ald0 rfl (inLit (N := gN G) rfl qk110.1 qk110.2 hN)) ?_
      refine XS.go (s_i2l rfl) ?_
      refine XS.go (s_bipush (v := 32) rfl rfl) ?_
      refine XS.go (s_lshl rfl) ?_
      refine XS.go (s_aloadn rfl rfl rfl) ?_
      refine XS.go (s_iload rfl rfl) ?_
      refine XS.go (s_iconst (v := 2) rfl rfl) ?_
      refine XS.go (s_iadd rfl) ?_
      replace hf := xi_none hf
      obtain ⟨qk111, hf⟩ := hf
      refine XS.go (s_ald0 rfl (inLit (N := gN G) rfl qk111.1 qk111.2 hN)) ?_
      refine XS.go (s_i2l rfl) ?_
      refine XS.go (s_ldc2 rfl (lg_10 61 rfl rfl)) ?_
      refine XS.go (s_land rfl) ?_
      refine XS.go (s_lor rfl) ?_
      replace hf := xb_some hf
      obtain ⟨r112, e113, hf⟩ := hf
      refine r_callv rfl xvX12_push xm13_101 (kf_m_push (d := d) L109 e113) (LY.lt L109 (by decide)) (LY.k1262 L109) (by decide) rfl rfl (dl0 (by decide)) (by decide) (Nat.le_of_ble_eq_true rfl) ?_
      rintro _ _ ⟨⟨rfl, rfl⟩, L114⟩
      refine r_icmp_eq (tgt := 1263) rfl rfl (fun qc115 => ?_) (fun qc115 => ?_)
      · replace hf := xi_pos hf qc115
        exact XR.forget (L2 := [some (.ref 10000000), some (.ref 0), some (.ref 1262), some (.ref 1316), some (.int x4), none, none, none]) ⟨rfl, ⟨rfl, ⟨rfl, ⟨rfl, ⟨rfl, trivial⟩⟩⟩⟩⟩ (kb_law_1263 hl hN hK23 L114 hf)
      · replace hf := xi_neg hf qc115
        refine XS.go (s_iconst (v := 0) rfl rfl) ?_
        cases hf
        exact XR.retz rfl rfl (by decide) (fun hret => ⟨_, hret, ⟨rfl, rfl⟩, L114⟩)
    replace hf := xi_neg hf qs31_8
    by_cases qs31_9 : ((gX G (Int32.toNatClampNeg x4)) &&& 31) = 9
    · replace hf := xi_pos hf qs31_9
      refine XS.go (s_tswI (tgt := 589) rfl (by rw [qs31_9]; decide) (by rw [qs31_9]; decide) (by rw [qs31_9]; rfl) rfl) ?_
      refine XS.go (s_aloadn rfl rfl rfl) ?_
      refine XS.go (s_aloadn rfl rfl rfl) ?_
      replace hf := xb_some hf
      obtain ⟨r116, e117, hf⟩ := hf
      refine r_callsW rfl xwL_text xm13_102 (kf_L_text (d := d) hl L0 e117) rfl rfl (dl (by decide)) (by decide) (Nat.le_of_ble_eq_true rfl) ?_
      rintro _ _ ⟨⟨rfl, rfl⟩, L118⟩
      refine XS.go (XS.lcl (L3 := [some (.ref 10000000), some (.ref 0), some (.ref 1262), some (.ref 1316), some (.int x4), some (.int r116.1), none, none]) (s_istore rfl (Nat.le_of_ble_eq_true rfl)) rfl) ?_
      refine XS.go (s_aloadn rfl rfl rfl) ?_
      replace hf := xb_some hf
      obtain ⟨r119, e120, hf⟩ := hf
      refine r_callv rfl xvX12_text xm13_104 (kf_m_text (d := d) L118 e120) (LY.lt L118 (by decide)) (LY.k1262 L118) (by decide) rfl rfl (dl (by decide)) (by decide) (Nat.le_of_ble_eq_true rfl) ?_
      rintro _ _ ⟨⟨rfl, rfl⟩, L121⟩
      refine XS.go (XS.lcl (L3 := [some (.ref 10000000), some (.ref 0), some (.ref 1262), some (.ref 1316), some (.int x4), some (.int r116.1), some (.int r119.1), none]) (s_istore rfl (Nat.le_of_ble_eq_true rfl)) rfl) ?_
      refine XS.go (s_aloadn rfl rfl rfl) ?_
      replace hf := xb_some hf
      obtain ⟨r122, e123, hf⟩ := hf
      refine r_callv rfl xvX12_thrown xm13_69 (kf_m_thrown (d := d) L121 e123) (LY.lt L121 (by decide)) (LY.k1262 L121) (by decide) rfl rfl (dl0 (by decide)) (by decide) (Nat.le_of_ble_eq_true rfl) ?_
      rintro _ _ ⟨⟨rfl, rfl⟩, L124⟩
      refine XS.go (s_iload rfl rfl) ?_
      refine r_icmp_eq (tgt := 613) rfl rfl (fun qc125 => ?_) (fun qc125 => ?_)
      · replace hf := xi_pos hf qc125
        refine XS.go (s_iload rfl rfl) ?_
        refine r_if_ne (tgt := 630) rfl rfl (fun qc126 => ?_) (fun qc126 => ?_)
        · replace hf := xi_pos hf qc126
          exact XR.forget (L2 := [some (.ref 10000000), some (.ref 0), some (.ref 1262), some (.ref 1316), some (.int x4), none, none, none]) ⟨rfl, ⟨rfl, ⟨rfl, ⟨rfl, ⟨rfl, trivial⟩⟩⟩⟩⟩ (kb_law_630 hl hN hK23 L124 hf)
        · replace hf := xi_neg hf qc126
          refine XS.go (s_aloadn rfl rfl rfl) ?_
          refine XS.go (s_iconst (v := 0) rfl rfl) ?_
          refine XS.go (s_lalde rfl (LY.lt L124 (by decide)) (LY.k1316 L124) (inN (k := 0) (LY.n1316 L124) rfl (by decide) (by decide)) rfl) ?_
          refine XS.go (s_iload rfl rfl) ?_
          refine XS.go (s_i2l rfl) ?_
          refine XS.go (s_lcmp rfl) ?_
          refine r_if_eq (tgt := 630) rfl rfl (fun qc127 => ?_) (fun qc127 => ?_)
          · replace hf := xi_pos hf qc127
            exact XR.forget (L2 := [some (.ref 10000000), some (.ref 0), some (.ref 1262), some (.ref 1316), some (.int x4), none, none, none]) ⟨rfl, ⟨rfl, ⟨rfl, ⟨rfl, ⟨rfl, trivial⟩⟩⟩⟩⟩ (kb_law_630 hl hN hK23 L124 hf)
          · replace hf := xi_neg hf qc127
            refine XS.go (s_iconst (v := 0) rfl rfl) ?_
            cases hf
            exact XR.retz rfl rfl (by decide) (fun hret => ⟨_, hret, ⟨rfl, rfl⟩, L124⟩)
      · replace hf := xi_neg hf qc125
        refine XS.go (s_iconst (v := 0) rfl rfl) ?_
        cases hf
        exact XR.retz rfl rfl (by decide) (fun hret => ⟨_, hret, ⟨rfl, rfl⟩, L124⟩)
    replace hf := xi_neg hf qs31_9
    by_cases qs31_10 : ((gX G (Int32.toNatClampNeg x4)) &&& 31) = 10
    · replace hf := xi_pos hf qs31_10
      refine XS.go (s_tswI (tgt := 633) rfl (by rw [qs31_10]; decide) (by rw [qs31_10]; decide) (by rw [qs31_10]; rfl) rfl) ?_
      refine XS.go (s_aloadn rfl rfl rfl) ?_
      refine XS.go (s_aloadn rfl rfl rfl) ?_
      refine XS.go (s_iload rfl rfl) ?_
      refine XS.go (s_iconst (v := 1) rfl rfl) ?_
      refine XS.go (s_iadd rfl) ?_
      replace hf := xi_none hf
      obtain ⟨qk128, hf⟩ := hf
      refine XS.go (s_ald0 rfl (inLit (N := gN G) rfl qk128.1 qk128.2 hN)) ?_
      refine XS.go (s_aloadn rfl rfl rfl) ?_
      refine XS.go (s_iload rfl rfl) ?_
      refine XS.go (s_iconst (v := 2) rfl rfl) ?_
      refine XS.go (s_iadd rfl) ?_
      replace hf := xi_none hf
      obtain ⟨qk129, hf⟩ := hf
      refine XS.go (s_ald0 rfl (inLit (N := gN G) rfl qk129.1 qk129.2 hN)) ?_
      refine XS.go (s_aloadn rfl rfl rfl) ?_
      replace hf := xb_some hf
      obtain ⟨r130, e131, hf⟩ := hf
      refine r_callsW rfl xwL_vector xm13_105 (kf_L_vector (d := d) hl L0 e131) rfl rfl (dl (by decide)) (by decide) (Nat.le_of_ble_eq_true rfl) ?_
      rintro _ _ ⟨⟨rfl, rfl⟩, L132⟩
      refine XS.go (XS.lcl (L3 := [some (.ref 10000000), some (.ref 0), some (.ref 1262), some (.ref 1316), some (.int x4), some (.int r130.1), none, none]) (s_istore rfl (Nat.le_of_ble_eq_true rfl)) rfl) ?_
      refine XS.go (s_aloadn rfl rfl rfl) ?_
      refine XS.go (s_aloadn rfl rfl rfl) ?_
      refine XS.go (s_iload rfl rfl) ?_
      refine XS.go (s_iconst (v := 1) rfl rfl) ?_
      refine XS.go (s_iadd rfl) ?_
      replace hf := xi_none hf
      obtain ⟨qk133, hf⟩ := hf
      refine XS.go (s_ald0 rfl (inLit (N := gN G) rfl qk133.1 qk133.2 hN)) ?_
      refine XS.go (s_aloadn rfl rfl rfl) ?_
      refine XS.go (s_iload rfl rfl) ?_
      refine XS.go (s_iconst (v := 2) rfl rfl) ?_
      refine XS.go (s_iadd rfl) ?_
      replace hf := xi_none hf
      obtain ⟨qk134, hf⟩ := hf
      refine XS.go (s_ald0 rfl (inLit (N := gN G) rfl qk134.1 qk134.2 hN)) ?_
      replace hf := xb_some hf
      obtain ⟨r135, e136, hf⟩ := hf
      refine r_callv rfl xvX12_vector xm13_108 (kf_m_vector (d := d) L132 e136) (LY.lt L132 (by decide)) (LY.k1262 L132) (by decide) rfl rfl (dl (by decide)) (by decide) (Nat.le_of_ble_eq_true rfl) ?_
      rintro _ _ ⟨⟨rfl, rfl⟩, L137⟩
      refine XS.go (XS.lcl (L3 := [some (.ref 10000000), some (.ref 0), some (.ref 1262), some (.ref 1316), some (.int x4), some (.int r130.1), some (.int r135.1), none]) (s_istore rfl (Nat.le_of_ble_eq_true rfl)) rfl) ?_
      refine XS.go (s_aloadn rfl rfl rfl) ?_
      replace hf := xb_some hf
      obtain ⟨r138, e139, hf⟩ := hf
      refine r_callv rfl xvX12_thrown xm13_69 (kf_m_thrown (d := d) L137 e139) (LY.lt L137 (by decide)) (LY.k1262 L137) (by decide) rfl rfl (dl0 (by decide)) (by decide) (Nat.le_of_ble_eq_true rfl) ?_
      rintro _ _ ⟨⟨rfl, rfl⟩, L140⟩
      refine XS.go (s_iload rfl rfl) ?_
      refine r_icmp_eq (tgt := 681) rfl rfl (fun qc141 => ?_) (fun qc141 => ?_)
      · replace hf := xi_pos hf qc141
        refine XS.go (s_iload rfl rfl) ?_
        refine r_if_ne (tgt := 698) rfl rfl (fun qc142 => ?_) (fun qc142 => ?_)
        · replace hf := xi_pos hf qc142
          exact XR.forget (L2 := [some (.ref 10000000), some (.ref 0), some (.ref 1262), some (.ref 1316), some (.int x4), none, none, none]) ⟨rfl, ⟨rfl, ⟨rfl, ⟨rfl, ⟨rfl, trivial⟩⟩⟩⟩⟩ (kb_law_698 hl hN hK23 L140 hf)
        · replace hf := xi_neg hf qc142
          refine XS.go (s_aloadn rfl rfl rfl) ?_
          refine XS.go (s_iconst (v := 0) rfl rfl) ?_
          refine XS.go (s_lalde rfl (LY.lt L140 (by decide)) (LY.k1316 L140) (inN (k := 0) (LY.n1316 L140) rfl (by decide) (by decide)) rfl) ?_
          refine XS.go (s_iload rfl rfl) ?_
          refine XS.go (s_i2l rfl) ?_
          refine XS.go (s_lcmp rfl) ?_
          refine r_if_eq (tgt := 698) rfl rfl (fun qc143 => ?_) (fun qc143 => ?_)
          · replace hf := xi_pos hf qc143
            exact XR.forget (L2 := [some (.ref 10000000), some (.ref 0), some (.ref 1262), some (.ref 1316), some (.int x4), none, none, none]) ⟨rfl, ⟨rfl, ⟨rfl, ⟨rfl, ⟨rfl, trivial⟩⟩⟩⟩⟩ (kb_law_698 hl hN hK23 L140 hf)
          · replace hf := xi_neg hf qc143
            refine XS.go (s_iconst (v := 0) rfl rfl) ?_
            cases hf
            exact XR.retz rfl rfl (by decide) (fun hret => ⟨_, hret, ⟨rfl, rfl⟩, L140⟩)
      · replace hf := xi_neg hf qc141
        refine XS.go (s_iconst (v := 0) rfl rfl) ?_
        cases hf
        exact XR.retz rfl rfl (by decide) (fun hret => ⟨_, hret, ⟨rfl, rfl⟩, L140⟩)
    replace hf := xi_neg hf qs31_10
    by_cases qs31_11 : ((gX G (Int32.toNatClampNeg x4)) &&& 31) = 11
    · replace hf := xi_pos hf qs31_11
      refine XS.go (s_tswI (tgt := 701) rfl (by rw [qs31_11]; decide) (by rw [qs31_11]; decide) (by rw [qs31_11]; rfl) rfl) ?_
      refine XS.go (s_aloadn rfl rfl rfl) ?_
      refine XS.go (s_aloadn rfl rfl rfl) ?_
      refine XS.go (s_iload rfl rfl) ?_
      refine XS.go (s_iconst (v := 1) rfl rfl) ?_
      refine XS.go (s_iadd rfl) ?_
      replace hf := xi_none hf
      obtain ⟨qk144, hf⟩ := hf
      refine XS.go (s_ald0 rfl (inLit (N := gN G) rfl qk144.1 qk144.2 hN)) ?_
      replace hf := xb_some hf
      obtain ⟨r145, e146, hf⟩ := hf
      refine r_callsW rfl xwL_begin xm13_109 (kf_L_begin (d := d) hl L0 e146) rfl rfl (dl (by decide)) (by decide) (Nat.le_of_ble_eq_true rfl) ?_
      rintro _ _ ⟨⟨rfl, rfl⟩, L147⟩
      refine XS.go (XS.lcl (L3 := [some (.ref 10000000), some (.ref 0), some (.ref 1262), some (.ref 1316), some (.int x4), some (.int r145.1), none, none]) (s_istore rfl (Nat.le_of_ble_eq_true rfl)) rfl) ?_
      refine XS.go (s_aloadn rfl rfl rfl) ?_
      refine XS.go (s_aloadn rfl rfl rfl) ?_
      refine XS.go (s_iload rfl rfl) ?_
      refine XS.go (s_iconst (v := 1) rfl rfl) ?_
      refine XS.go (s_iadd rfl) ?_
      replace hf := xi_none hf
      obtain ⟨qk148, hf⟩ := hf
      refine XS.go (s_ald0 rfl (inLit (N := gN G) rfl qk148.1 qk148.2 hN)) ?_
      replace hf := xb_some hf
      obtain ⟨r149, e150, hf⟩ := hf
      refine r_callv rfl xvX12_begin xm13_112 (kf_m_begin (d := d) L147 e150) (LY.lt L147 (by decide)) (LY.k1262 L147) (by decide) rfl rfl (dl (by decide)) (by decide) (Nat.le_of_ble_eq_true rfl) ?_
      rintro _ _ ⟨⟨rfl, rfl⟩, L151⟩
      refine XS.go (s_aloadn rfl rfl rfl) ?_
      replace hf := xb_some hf
      obtain ⟨r152, e153, hf⟩ := hf
      refine r_callv rfl xvX12_thrown xm13_69 (kf_m_thrown (d := d) L151 e153) (LY.lt L151 (by decide)) (LY.k1262 L151) (by decide) rfl rfl (dl0 (by decide)) (by decide) (Nat.le_of_ble_eq_true rfl) ?_
      rintro _ _ ⟨⟨rfl, rfl⟩, L154⟩
      refine XS.go (s_iload rfl rfl) ?_
      refine r_icmp_eq (tgt := 734) rfl rfl (fun qc155 => ?_) (fun qc155 => ?_)
      · replace hf := xi_pos hf qc155
        refine XS.go (s_goto (tgt := 1263) rfl rfl) ?_
        exact XR.forget (L2 := [some (.ref 10000000), some (.ref 0), some (.ref 1262), some (.ref 1316), some (.int x4), none, none, none]) ⟨rfl, ⟨rfl, ⟨rfl, ⟨rfl, ⟨rfl, trivial⟩⟩⟩⟩⟩ (kb_law_1263 hl hN hK23 L154 hf)
      · replace hf := xi_neg hf qc155
        refine XS.go (s_iconst (v := 0) rfl rfl) ?_
        cases hf
        exact XR.retz rfl rfl (by decide) (fun hret => ⟨_, hret, ⟨rfl, rfl⟩, L154⟩)
    replace hf := xi_neg hf qs31_11
    by_cases qs31_12 : ((gX G (Int32.toNatClampNeg x4)) &&& 31) = 12
    · replace hf := xi_pos hf qs31_12
      refine XS.go (s_tswI (tgt := 737) rfl (by rw [qs31_12]; decide) (by rw [qs31_12]; decide) (by rw [qs31_12]; rfl) rfl) ?_
      refine XS.go (s_aloadn rfl rfl rfl) ?_
      refine XS.go (s_aloadn rfl rfl rfl) ?_
      refine XS.go (s_iload rfl rfl) ?_
      refine XS.go (s_iconst (v := 1) rfl rfl) ?_
      refine XS.go (s_iadd rfl) ?_
      replace hf := xi_none hf
      obtain ⟨qk156, hf⟩ := hf
      refine XS.go (s_ald0 rfl (inLit (N := gN G) rfl qk156.1 qk156.2 hN)) ?_
      refine XS.go (s_aloadn rfl rfl rfl) ?_
      replace hf := xb_some hf
      obtain ⟨r157, e158, hf⟩ := hf
      refine r_callsW rfl xwL_set xm13_113 (kf_L_set (d := d) hl L0 e158) rfl rfl (dl (by decide)) (by decide) (Nat.le_of_ble_eq_true rfl) ?_
      rintro _ _ ⟨⟨rfl, rfl⟩, L159⟩
      refine XS.go (XS.lcl (L3 := [some (.ref 10000000), some (.ref 0), some (.ref 1262), some (.ref 1316), some (.int x4), some (.int r157.1), none, none]) (s_istore rfl (Nat.le_of_ble_eq_true rfl)) rfl) ?_
      refine XS.go (s_aloadn rfl rfl rfl) ?_
      refine XS.go (s_aloadn rfl rfl rfl) ?_
      refine XS.go (s_iload rfl rfl) ?_
      refine XS.go (s_iconst (v := 1) rfl rfl) ?_
      refine XS.go (s_iadd rfl) ?_
      replace hf := xi_none hf
      obtain ⟨qk160, hf⟩ := hf
      refine XS.go (s_ald0 rfl (inLit (N := gN G) rfl qk160.1 qk160.2 hN)) ?_
      replace hf := xb_some hf
      obtain ⟨r161, e162, hf⟩ := hf
      refine r_callv rfl xvX12_set xm13_116 (kf_m_set (d := d) L159 e162) (LY.lt L159 (by decide)) (LY.k1262 L159) (by decide) rfl rfl (dl (by decide)) (by decide) (Nat.le_of_ble_eq_true rfl) ?_
      rintro _ _ ⟨⟨rfl, rfl⟩, L163⟩
      refine XS.go (XS.lcl (L3 := [some (.ref 10000000), some (.ref 0), some (.ref 1262), some (.ref 1316), some (.int x4), some (.int r157.1), some (.int r161.1), none]) (s_istore rfl (Nat.le_of_ble_eq_true rfl)) rfl) ?_
      refine XS.go (s_aloadn rfl rfl rfl) ?_
      replace hf := xb_some hf
      obtain ⟨r164, e165, hf⟩ := hf
      refine r_callv rfl xvX12_thrown xm13_69 (kf_m_thrown (d := d) L163 e165) (LY.lt L163 (by decide)) (LY.k1262 L163) (by decide) rfl rfl (dl0 (by decide)) (by decide) (Nat.le_of_ble_eq_true rfl) ?_
      rintro _ _ ⟨⟨rfl, rfl⟩, L166⟩
      refine XS.go (s_iload rfl rfl) ?_
      refine r_icmp_eq (tgt := 773) rfl rfl (fun qc167 => ?_) (fun qc167 => ?_)
      · replace hf := xi_pos hf qc167
        refine XS.go (s_iload rfl rfl) ?_
        refine r_if_ne (tgt := 797) rfl rfl (fun qc168 => ?_) (fun qc168 => ?_)
        · replace hf := xi_pos hf qc168
          exact XR.forget (L2 := [some (.ref 10000000), some (.ref 0), some (.ref 1262), some (.ref 1316), some (.int x4), none, none, none]) ⟨rfl, ⟨rfl, ⟨rfl, ⟨rfl, ⟨rfl, trivial⟩⟩⟩⟩⟩ (kb_law_797 hl hN hK23 L166 hf)
        · replace hf := xi_neg hf qc168
          refine XS.go (s_aloadn rfl rfl rfl) ?_
          refine XS.go (s_iconst (v := 0) rfl rfl) ?_
          refine XS.go (s_lalde rfl (LY.lt L166 (by decide)) (LY.k1316 L166) (inN (k := 0) (LY.n1316 L166) rfl (by decide) (by decide)) rfl) ?_
          refine XS.go (s_iload rfl rfl) ?_
          refine r_if_eq (tgt := 790) rfl rfl (fun qc169 => ?_) (fun qc169 => ?_)
          · replace hf := xi_pos hf qc169
            refine XS.go (s_lconst (v := 0) rfl rfl) ?_
            exact XR.forget (L2 := [some (.ref 10000000), some (.ref 0), some (.ref 1262), some (.ref 1316), some (.int x4), none, none, none]) ⟨rfl, ⟨rfl, ⟨rfl, ⟨rfl, ⟨rfl, trivial⟩⟩⟩⟩⟩ (kb_law_791 hl hN hK23 L166 hf)
          · replace hf := xi_neg hf qc169
            refine XS.go (s_lconst (v := 1) rfl rfl) ?_
            refine XS.go (s_goto (tgt := 791) rfl rfl) ?_
            exact XR.forget (L2 := [some (.ref 10000000), some (.ref 0), some (.ref 1262), some (.ref 1316), some (.int x4), none, none, none]) ⟨rfl, ⟨rfl, ⟨rfl, ⟨rfl, ⟨rfl, trivial⟩⟩⟩⟩⟩ (kb_law_791 hl hN hK23 L166 hf)
      · replace hf := xi_neg hf qc167
        refine XS.go (s_iconst (v := 0) rfl rfl) ?_
        cases hf
        exact XR.retz rfl rfl (by decide) (fun hret => ⟨_, hret, ⟨rfl, rfl⟩, L166⟩)
    replace hf := xi_neg hf qs31_12
    by_cases qs31_13 : ((gX G (Int32.toNatClampNeg x4)) &&& 31) = 13
    · replace hf := xi_pos hf qs31_13
      refine XS.go (s_tswI (tgt := 800) rfl (by rw [qs31_13]; decide) (by rw [qs31_13]; decide) (by rw [qs31_13]; rfl) rfl) ?_
      refine XS.go (s_aloadn rfl rfl rfl) ?_
      refine XS.go (s_aloadn rfl rfl rfl) ?_
      replace hf := xb_some hf
      obtain ⟨r170, e171, hf⟩ := hf
      refine r_callsW rfl xwL_ready xm13_117 (kf_L_ready (d := d) hl L0 e171) rfl rfl (dl (by decide)) (by decide) (Nat.le_of_ble_eq_true rfl) ?_
      rintro _ _ ⟨⟨rfl, rfl⟩, L172⟩
      refine XS.go (XS.lcl (L3 := [some (.ref 10000000), some (.ref 0), some (.ref 1262), some (.ref 1316), some (.int x4), some (.int r170.1), none, none]) (s_istore rfl (Nat.le_of_ble_eq_true rfl)) rfl) ?_
      refine XS.go (s_aloadn rfl rfl rfl) ?_
      replace hf := xb_some hf
      obtain ⟨r173, e174, hf⟩ := hf
      refine r_callv rfl xvX12_ready xm13_119 (kf_m_ready (d := d) L172 e174) (LY.lt L172 (by decide)) (LY.k1262 L172) (by decide) rfl rfl (dl (by decide)) (by decide) (Nat.le_of_ble_eq_true rfl) ?_
      rintro _ _ ⟨⟨rfl, rfl⟩, L175⟩
      refine XS.go (XS.lcl (L3 := [some (.ref 10000000), some (.ref 0), some (.ref 1262), some (.ref 1316), some (.int x4), some (.int r170.1), some (.int r173.1), none]) (s_istore rfl (Nat.le_of_ble_eq_true rfl)) rfl) ?_
      refine XS.go (s_aloadn rfl rfl rfl) ?_
      replace hf := xb_some hf
      obtain ⟨r176, e177, hf⟩ := hf
      refine r_callv rfl xvX12_thrown xm13_69 (kf_m_thrown (d := d) L175 e177) (LY.lt L175 (by decide)) (LY.k1262 L175) (by decide) rfl rfl (dl0 (by decide)) (by decide) (Nat.le_of_ble_eq_true rfl) ?_
      rintro _ _ ⟨⟨rfl, rfl⟩, L178⟩
      refine XS.go (s_iload rfl rfl) ?_
      refine r_icmp_eq (tgt := 824) rfl rfl (fun qc179 => ?_) (fun qc179 => ?_)
      · replace hf := xi_pos hf qc179
        refine XS.go (s_iload rfl rfl) ?_
        refine r_if_ne (tgt := 841) rfl rfl (fun qc180 => ?_) (fun qc180 => ?_)
        · replace hf := xi_pos hf qc180
          exact XR.forget (L2 := [some (.ref 10000000), some (.ref 0), some (.ref 1262), some (.ref 1316), some (.int x4), none, none, none]) ⟨rfl, ⟨rfl, ⟨rfl, ⟨rfl, ⟨rfl, trivial⟩⟩⟩⟩⟩ (kb_law_841 hl hN hK23 L178 hf)
        · replace hf := xi_neg hf qc180
          refine XS.go (s_aloadn rfl rfl rfl) ?_
          refine XS.go (s_iconst (v := 0) rfl rfl) ?_
          refine XS.go (s_lalde rfl (LY.lt L178 (by decide)) (LY.k1316 L178) (inN (k := 0) (LY.n1316 L178) rfl (by decide) (by decide)) rfl) ?_
          refine XS.go (s_iload rfl rfl) ?_
          refine XS.go (s_i2l rfl) ?_
          refine XS.go (s_lcmp rfl) ?_
          refine r_if_eq (tgt := 841) rfl rfl (fun qc181 => ?_) (fun qc181 => ?_)
          · replace hf := xi_pos hf qc181
            exact XR.forget (L2 := [some (.ref 10000000), some (.ref 0), some (.ref 1262), some (.ref 1316), some (.int x4), none, none, none]) ⟨rfl, ⟨rfl, ⟨rfl, ⟨rfl, ⟨rfl, trivial⟩⟩⟩⟩⟩ (kb_law_841 hl hN hK23 L178 hf)
          · replace hf := xi_neg hf qc181
            refine XS.go (s_iconst (v := 0) rfl rfl) ?_
            cases hf
            exact XR.retz rfl rfl (by decide) (fun hret => ⟨_, hret, ⟨rfl, rfl⟩, L178⟩)
      · replace hf := xi_neg hf qc179
        refine XS.go (s_iconst (v := 0) rfl rfl) ?_
        cases hf
        exact XR.retz rfl rfl (by decide) (fun hret => ⟨_, hret, ⟨rfl, rfl⟩, L178⟩)
    replace hf := xi_neg hf qs31_13
    by_cases qs31_14 : ((gX G (Int32.toNatClampNeg x4)) &&& 31) = 14
    · replace hf := xi_pos hf qs31_14
      refine XS.go (s_tswI (tgt := 844) rfl (by rw [qs31_14]; decide) (by rw [qs31_14]; decide) (by rw [qs31_14]; rfl) rfl) ?_
      refine XS.go (s_aloadn rfl rfl rfl) ?_
      refine XS.go (s_aloadn rfl rfl rfl) ?_
      refine XS.go (s_iload rfl rfl) ?_
      refine XS.go (s_iconst (v := 1) rfl rfl) ?_
      refine XS.go (s_iadd rfl) ?_
      replace hf := xi_none hf
      obtain ⟨qk182, hf⟩ := hf
      refine XS.go (s_ald0 rfl (inLit (N := gN G) rfl qk182.1 qk182.2 hN)) ?_
      refine XS.go (s_aloadn rfl rfl rfl) ?_
      replace hf := xb_some hf
      obtain ⟨r183, e184, hf⟩ := hf
      refine r_callsW rfl xwL_finish xm13_120 (kf_L_finish (d := d) hl L0 e184) rfl rfl (dl (by decide)) (by decide) (Nat.le_of_ble_eq_true rfl) ?_
      rintro _ _ ⟨⟨rfl, rfl⟩, L185⟩
      refine XS.go (XS.lcl (L3 := [some (.ref 10000000), some (.ref 0), some (.ref 1262), some (.ref 1316), some (.int x4), some (.int r183.1), none, none]) (s_istore rfl (Nat.le_of_ble_eq_true rfl)) rfl) ?_
      refine XS.go (s_aloadn rfl rfl rfl) ?_
      refine XS.go (s_aloadn rfl rfl rfl) ?_
      refine XS.go (s_iload rfl rfl) ?_
      refine XS.go (s_iconst (v := 1) rfl rfl) ?_
      refine XS.go (s_iadd rfl) ?_
      replace hf := xi_none hf
      obtain ⟨qk186, hf⟩ := hf
      refine XS.go (s_ald0 rfl (inLit (N := gN G) rfl qk186.1 qk186.2 hN)) ?_
      replace hf := xb_some hf
      obtain ⟨r187, e188, hf⟩ := hf
      refine r_callv rfl xvX12_finish xm13_122 (kf_m_finish (d := d) L185 e188) (LY.lt L185 (by decide)) (LY.k1262 L185) (by decide) rfl rfl (dl (by decide)) (by decide) (Nat.le_of_ble_eq_true rfl) ?_
      rintro _ _ ⟨⟨rfl, rfl⟩, L189⟩
      refine XS.go (XS.lcl (L3 := [some (.ref 10000000), some (.ref 0), some (.ref 1262), some (.ref 1316), some (.int x4), some (.int r183.1), some (.int r187.1), none]) (s_istore rfl (Nat.le_of_ble_eq_true rfl)) rfl) ?_
      refine XS.go (s_aloadn rfl rfl rfl) ?_
      replace hf := xb_some hf
      obtain ⟨r190, e191, hf⟩ := hf
      refine r_callv rfl xvX12_thrown xm13_69 (kf_m_thrown (d := d) L189 e191) (LY.lt L189 (by decide)) (LY.k1262 L189) (by decide) rfl rfl (dl0 (by decide)) (by decide) (Nat.le_of_ble_eq_true rfl) ?_
      rintro _ _ ⟨⟨rfl, rfl⟩, L192⟩
      refine XS.go (s_iload rfl rfl) ?_
      refine r_icmp_eq (tgt := 880) rfl rfl (fun qc193 => ?_) (fun qc193 => ?_)
      · replace hf := xi_pos hf qc193
        refine XS.go (s_iload rfl rfl) ?_
        refine r_if_ne (tgt := 897) rfl rfl (fun qc194 => ?_) (fun qc194 => ?_)
        · replace hf := xi_pos hf qc194
          exact XR.forget (L2 := [some (.ref 10000000), some (.ref 0), some (.ref 1262), some (.ref 1316), some (.int x4), none, none, none]) ⟨rfl, ⟨rfl, ⟨rfl, ⟨rfl, ⟨rfl, trivial⟩⟩⟩⟩⟩ (kb_law_897 hl hN hK23 L192 hf)
        · replace hf := xi_neg hf qc194
          refine XS.go (s_aloadn rfl rfl rfl) ?_
          refine XS.go (s_iconst (v := 0) rfl rfl) ?_
          refine XS.go (s_lalde rfl (LY.lt L192 (by decide)) (LY.k1316 L192) (inN (k := 0) (LY.n1316 L192) rfl (by decide) (by decide)) rfl) ?_
          refine XS.go (s_iload rfl rfl) ?_
          refine XS.go (s_i2l rfl) ?_
          refine XS.go (s_lcmp rfl) ?_
          refine r_if_eq (tgt := 897) rfl rfl (fun qc195 => ?_) (fun qc195 => ?_)
          · replace hf := xi_pos hf qc195
            exact XR.forget (L2 := [some (.ref 10000000), some (.ref 0), some (.ref 1262), some (.ref 1316), some (.int x4), none, none, none]) ⟨rfl, ⟨rfl, ⟨rfl, ⟨rfl, ⟨rfl, trivial⟩⟩⟩⟩⟩ (kb_law_897 hl hN hK23 L192 hf)
          · replace hf := xi_neg hf qc195
            refine XS.go (s_iconst (v := 0) rfl rfl) ?_
            cases hf
            exact XR.retz rfl rfl (by decide) (fun hret => ⟨_, hret, ⟨rfl, rfl⟩, L192⟩)
      · replace hf := xi_neg hf qc193
        refine XS.go (s_iconst (v := 0) rfl rfl) ?_
        cases hf
        exact XR.retz rfl rfl (by decide) (fun hret => ⟨_, hret, ⟨rfl, rfl⟩, L192⟩)
    replace hf := xi_neg hf qs31_14
    by_cases qs31_15 : ((gX G (Int32.toNatClampNeg x4)) &&& 31) = 15
    · replace hf := xi_pos hf qs31_15
      refine XS.go (s_tswI (tgt := 900) rfl (by rw [qs31_15]; decide) (by rw [qs31_15]; decide) (by rw [qs31_15]; rfl) rfl) ?_
      refine XS.go (s_aloadn rfl rfl rfl) ?_
      replace hf := xb_some hf
      obtain ⟨r196, e197, hf⟩ := hf
      refine r_callv rfl xvX11_clear xm13_123 (kf_t_clear (d := d) L0 e197) (LY.lt L0 (by decide)) (LY.k0 L0) (by decide) rfl rfl (dl (by decide)) (by decide) (Nat.le_of_ble_eq_true rfl) ?_
      rintro _ _ ⟨⟨rfl, rfl⟩, L198⟩
      refine XS.go (s_aloadn rfl rfl rfl) ?_
      replace hf := xb_some hf
      obtain ⟨r199, e200, hf⟩ := hf
      refine r_callv rfl xvX12_clear xm13_126 (kf_m_clear (d := d) L198 e200) (LY.lt L198 (by decide)) (LY.k1262 L198) (by decide) rfl rfl (dl (by decide)) (by decide) (Nat.le_of_ble_eq_true rfl) ?_
      rintro _ _ ⟨⟨rfl, rfl⟩, L201⟩
      refine r_icmp_eq (tgt := 1263) rfl rfl (fun qc202 => ?_) (fun qc202 => ?_)
      · replace hf := xi_pos hf qc202
        exact XR.forget (L2 := [some (.ref 10000000), some (.ref 0), some (.ref 1262), some (.ref 1316), some (.int x4), none, none, none]) ⟨rfl, ⟨rfl, ⟨rfl, ⟨rfl, ⟨rfl, trivial⟩⟩⟩⟩⟩ (kb_law_1263 hl hN hK23 L201 hf)
      · replace hf := xi_neg hf qc202
        refine XS.go (s_iconst (v := 0) rfl rfl) ?_
        cases hf
        exact XR.retz rfl rfl (by decide) (fun hret => ⟨_, hret, ⟨rfl, rfl⟩, L201⟩)
    replace hf := xi_neg hf qs31_15
    by_cases qs31_16 : ((gX G (Int32.toNatClampNeg x4)) &&& 31) = 16
    · replace hf := xi_pos hf qs31_16
      refine XS.go (s_tswI (tgt := 913) rfl (by rw [qs31_16]; decide) (by rw [qs31_16]; decide) (by rw [qs31_16]; rfl) rfl) ?_
      refine XS.go (s_aloadn rfl rfl rfl) ?_
      refine XS.go (s_aloadn rfl rfl rfl) ?_
      refine XS.go (s_iload rfl rfl) ?_
      refine XS.go (s_iconst (v := 1) rfl rfl) ?_
      refine XS.go (s_iadd rfl) ?_
      replace hf := xi_none hf
      obtain ⟨qk203, hf⟩ := hf
      refine XS.go (s_ald0 rfl (inLit (N := gN G) rfl qk203.1 qk203.2 hN)) ?_
      replace hf := xb_some hf
      obtain ⟨r204, e205, hf⟩ := hf
      refine r_callv rfl xvX11_out xm13_127 (kf_t_out (d := d) L0 e205) (LY.lt L0 (by decide)) (LY.k0 L0) (by decide) rfl rfl (dl (by decide)) (by decide) (Nat.le_of_ble_eq_true rfl) ?_
      rintro _ _ ⟨⟨rfl, rfl⟩, L206⟩
      refine XS.go (s_aloadn rfl rfl rfl) ?_
      refine XS.go (s_aloadn rfl rfl rfl) ?_
      refine XS.go (s_iload rfl rfl) ?_
      refine XS.go (s_iconst (v := 1) rfl rfl) ?_
      refine XS.go (s_iadd rfl) ?_
      replace hf := xi_none hf
      obtain ⟨qk207, hf⟩ := hf
      refine XS.go (s_ald0 rfl (inLit (N := gN G) rfl qk207.1 qk207.2 hN)) ?_
      replace hf := xb_some hf
      obtain ⟨r208, e209, hf⟩ := hf
      refine r_callv rfl xvX12_out xm13_130 (kf_m_out (d := d) L206 e209) (LY.lt L206 (by decide)) (LY.k1262 L206) (by decide) rfl rfl (dl0 (by decide)) (by decide) (Nat.le_of_ble_eq_true rfl) ?_
      rintro _ _ ⟨⟨rfl, rfl⟩, L210⟩
      refine r_icmp_eq (tgt := 1263) rfl rfl (fun qc211 => ?_) (fun qc211 => ?_)
      · replace hf := xi_pos hf qc211
        exact XR.forget (L2 := [some (.ref 10000000), some (.ref 0), some (.ref 1262), some (.ref 1316), some (.int x4), none, none, none]) ⟨rfl, ⟨rfl, ⟨rfl, ⟨rfl, ⟨rfl, trivial⟩⟩⟩⟩⟩ (kb_law_1263 hl hN hK23 L210 hf)
      · replace hf := xi_neg hf qc211
        refine XS.go (s_iconst (v := 0) rfl rfl) ?_
        cases hf
        exact XR.retz rfl rfl (by decide) (fun hret => ⟨_, hret, ⟨rfl, rfl⟩, L210⟩)
    replace hf := xi_neg hf qs31_16
    by_cases qs31_17 : ((gX G (Int32.toNatClampNeg x4)) &&& 31) = 17
    · replace hf := xi_pos hf qs31_17
      refine XS.go (s_tswI (tgt := 938) rfl (by rw [qs31_17]; decide) (by rw [qs31_17]; decide) (by rw [qs31_17]; rfl) rfl) ?_
      refine XS.go (s_aloadn rfl rfl rfl) ?_
      refine XS.go (s_aloadn rfl rfl rfl) ?_
      refine XS.go (s_iload rfl rfl) ?_
      refine XS.go (s_iconst (v := 1) rfl rfl) ?_
      refine XS.go (s_iadd rfl) ?_
      replace hf := xi_none hf
      obtain ⟨qk212, hf⟩ := hf
      refine XS.go (s_ald0 rfl (inLit (N := gN G) rfl qk212.1 qk212.2 hN)) ?_
      replace hf := xb_some hf
      obtain ⟨r213, e214, hf⟩ := hf
      refine r_callv rfl xvX11_count xm13_131 (kf_t_count (d := d) L0 e214) (LY.lt L0 (by decide)) (LY.k0 L0) (by decide) rfl rfl (dl0 (by decide)) (by decide) (Nat.le_of_ble_eq_true rfl) ?_
      rintro _ _ ⟨⟨rfl, rfl⟩, L215⟩
      refine XS.go (s_aloadn rfl rfl rfl) ?_
      refine XS.go (s_aloadn rfl rfl rfl) ?_
      refine XS.go (s_iload rfl rfl) ?_
      refine XS.go (s_iconst (v := 1) rfl rfl) ?_
      refine XS.go (s_iadd rfl) ?_
      replace hf := xi_none hf
      obtain ⟨qk216, hf⟩ := hf
      refine XS.go (s_ald0 rfl (inLit (N := gN G) rfl qk216.1 qk216.2 hN)) ?_
      replace hf := xb_some hf
      obtain ⟨r217, e218, hf⟩ := hf
      refine r_callv rfl xvX12_count xm13_134 (kf_m_count (d := d) L215 e218) (LY.lt L215 (by decide)) (LY.k1262 L215) (by decide) rfl rfl (dl0 (by decide)) (by decide) (Nat.le_of_ble_eq_true rfl) ?_
      rintro _ _ ⟨⟨rfl, rfl⟩, L219⟩
      refine r_icmp_eq (tgt := 1263) rfl rfl (fun qc220 => ?_) (fun qc220 => ?_)
      · replace hf := xi_pos hf qc220
        exact XR.forget (L2 := [some (.ref 10000000), some (.ref 0), some (.ref 1262), some (.ref 1316), some (.int x4), none, none, none]) ⟨rfl, ⟨rfl, ⟨rfl, ⟨rfl, ⟨rfl, trivial⟩⟩⟩⟩⟩ (kb_law_1263 hl hN hK23 L219 hf)
      · replace hf := xi_neg hf qc220
        refine XS.go (s_iconst (v := 0) rfl rfl) ?_
        cases hf
        exact XR.retz rfl rfl (by decide) (fun hret => ⟨_, hret, ⟨rfl, rfl⟩, L219⟩)
    replace hf := xi_neg hf qs31_17
    by_cases qs31_18 : ((gX G (Int32.toNatClampNeg x4)) &&& 31) = 18
    · replace hf := xi_pos hf qs31_18
      refine XS.go (s_tswI (tgt := 963) rfl (by rw [qs31_18]; decide) (by rw [qs31_18]; decide) (by rw [qs31_18]; rfl) rfl) ?_
      refine XS.go (s_aloadn rfl rfl rfl) ?_
      refine XS.go (s_aloadn rfl rfl rfl) ?_
      refine XS.go (s_iload rfl rfl) ?_
      refine XS.go (s_iconst (v := 1) rfl rfl) ?_
      refine XS.go (s_iadd rfl) ?_
      replace hf := xi_none hf
      obtain ⟨qk221, hf⟩ := hf
      refine XS.go (s_ald0 rfl (inLit (N := gN G) rfl qk221.1 qk221.2 hN)) ?_
      refine XS.go (s_aloadn rfl rfl rfl) ?_
      replace hf := xb_some hf
      obtain ⟨r222, e223, hf⟩ := hf
      refine r_callsW rfl xwL_load xm13_135 (kf_L_load (d := d) hl L0 e223) rfl rfl (dl (by decide)) (by decide) (Nat.le_of_ble_eq_true rfl) ?_
      rintro _ _ ⟨⟨rfl, rfl⟩, L224⟩
      refine XS.go (XS.lcl (L3 := [some (.ref 10000000), some (.ref 0), some (.ref 1262), some (.ref 1316), some (.int x4), some (.int r222.1), none, none]) (s_istore rfl (Nat.le_of_ble_eq_true rfl)) rfl) ?_
      refine XS.go (s_aloadn rfl rfl rfl) ?_
      refine XS.go (s_aloadn rfl rfl rfl) ?_
      refine XS.go (s_iload rfl rfl) ?_
      refine XS.go (s_iconst (v := 1) rfl rfl) ?_
      refine XS.go (s_iadd rfl) ?_
      replace hf := xi_none hf
      obtain ⟨qk225, hf⟩ := hf
      refine XS.go (s_ald0 rfl (inLit (N := gN G) rfl qk225.1 qk225.2 hN)) ?_
      replace hf := xb_some hf
      obtain ⟨r226, e227, hf⟩ := hf
      refine r_callv rfl xvX12_load xm13_137 (kf_m_load (d := d) L224 e227) (LY.lt L224 (by decide)) (LY.k1262 L224) (by decide) rfl rfl (dl (by decide)) (by decide) (Nat.le_of_ble_eq_true rfl) ?_
      rintro _ _ ⟨⟨rfl, rfl⟩, L228⟩
      refine XS.go (XS.lcl (L3 := [some (.ref 10000000), some (.ref 0), some (.ref 1262), some (.ref 1316), some (.int x4), some (.int r222.1), some (.int r226.1), none]) (s_istore rfl (Nat.le_of_ble_eq_true rfl)) rfl) ?_
      refine XS.go (s_aloadn rfl rfl rfl) ?_
      replace hf := xb_some hf
      obtain ⟨r229, e230, hf⟩ := hf
      refine r_callv rfl xvX12_thrown xm13_69 (kf_m_thrown (d := d) L228 e230) (LY.lt L228 (by decide)) (LY.k1262 L228) (by decide) rfl rfl (dl0 (by decide)) (by decide) (Nat.le_of_ble_eq_true rfl) ?_
      rintro _ _ ⟨⟨rfl, rfl⟩, L231⟩
      refine XS.go (s_iload rfl rfl) ?_
      refine r_icmp_eq (tgt := 999) rfl rfl (fun qc232 => ?_) (fun qc232 => ?_)
      · replace hf := xi_pos hf qc232
        refine XS.go (s_iload rfl rfl) ?_
        refine r_if_ne (tgt := 1023) rfl rfl (fun qc233 => ?_) (fun qc233 => ?_)
        · replace hf := xi_pos hf qc233
          exact XR.forget (L2 := [some (.ref 10000000), some (.ref 0), some (.ref 1262), some (.ref 1316), some (.int x4), none, none, none]) ⟨rfl, ⟨rfl, ⟨rfl, ⟨rfl, ⟨rfl, trivial⟩⟩⟩⟩⟩ (kb_law_1023 hl hN hK23 L231 hf)
        · replace hf := xi_neg hf qc233
          refine XS.go (s_aloadn rfl rfl rfl) ?_
          refine XS.go (s_iconst (v := 0) rfl rfl) ?_
          refine XS.go (s_lalde rfl (LY.lt L231 (by decide)) (LY.k1316 L231) (inN (k := 0) (LY.n1316 L231) rfl (by decide) (by decide)) rfl) ?_
          refine XS.go (s_iload rfl rfl) ?_
          refine r_if_eq (tgt := 1016) rfl rfl (fun qc234 => ?_) (fun qc234 => ?_)
          · replace hf := xi_pos hf qc234
            refine XS.go (s_lconst (v := 0) rfl rfl) ?_
            exact XR.forget (L2 := [some (.ref 10000000), some (.ref 0), some (.ref 1262), some (.ref 1316), some (.int x4), none, none, none]) ⟨rfl, ⟨rfl, ⟨rfl, ⟨rfl, ⟨rfl, trivial⟩⟩⟩⟩⟩ (kb_law_1017 hl hN hK23 L231 hf)
          · replace hf := xi_neg hf qc234
            refine XS.go (s_lconst (v := 1) rfl rfl) ?_
            refine XS.go (s_goto (tgt := 1017) rfl rfl) ?_
            exact XR.forget (L2 := [some (.ref 10000000), some (.ref 0), some (.ref 1262), some (.ref 1316), some (.int x4), none, none, none]) ⟨rfl, ⟨rfl, ⟨rfl, ⟨rfl, ⟨rfl, trivial⟩⟩⟩⟩⟩ (kb_law_1017 hl hN hK23 L231 hf)
      · replace hf := xi_neg hf qc232
        refine XS.go (s_iconst (v := 0) rfl rfl) ?_
        cases hf
        exact XR.retz rfl rfl (by decide) (fun hret => ⟨_, hret, ⟨rfl, rfl⟩, L231⟩)
    replace hf := xi_neg hf qs31_18
    by_cases qs31_19 : ((gX G (Int32.toNatClampNeg x4)) &&& 31) = 19
    · replace hf := xi_pos hf qs31_19
      refine XS.go (s_tswI (tgt := 1026) rfl (by rw [qs31_19]; decide) (by rw [qs31_19]; decide) (by rw [qs31_19]; rfl) rfl) ?_
      refine XS.go (s_aloadn rfl rfl rfl) ?_
      refine XS.go (s_aloadn rfl rfl rfl) ?_
      refine XS.go (s_iload rfl rfl) ?_
      refine XS.go (s_iconst (v := 1) rfl rfl) ?_
      refine XS.go (s_iadd rfl) ?_
      replace hf := xi_none hf
      obtain ⟨qk235, hf⟩ := hf
      refine XS.go (s_ald0 rfl (inLit (N := gN G) rfl qk235.1 qk235.2 hN)) ?_
      replace hf := xb_some hf
      obtain ⟨r236, e237, hf⟩ := hf
      refine r_callv rfl xvX11_node xm13_138 (kf_t_node (d := d) L0 e237) (LY.lt L0 (by decide)) (LY.k0 L0) (by decide) rfl rfl (dl (by decide)) (by decide) (Nat.le_of_ble_eq_true rfl) ?_
      rintro _ _ ⟨⟨rfl, rfl⟩, L238⟩
      refine XS.go (s_aloadn rfl rfl rfl) ?_
      refine XS.go (s_aloadn rfl rfl rfl) ?_
      refine XS.go (s_iload rfl rfl) ?_
      refine XS.go (s_iconst (v := 1) rfl rfl) ?_
      refine XS.go (s_iadd rfl) ?_
      replace hf := xi_none hf
      obtain ⟨qk239, hf⟩ := hf
      refine XS.go (s_ald0 rfl (inLit (N := gN G) rfl qk239.1 qk239.2 hN)) ?_
      replace hf := xb_some hf
      obtain ⟨r240, e241, hf⟩ := hf
      refine r_callv rfl xvX12_node xm13_141 (kf_m_node (d := d) L238 e241) (LY.lt L238 (by decide)) (LY.k1262 L238) (by decide) rfl rfl (dl (by decide)) (by decide) (Nat.le_of_ble_eq_true rfl) ?_
      rintro _ _ ⟨⟨rfl, rfl⟩, L242⟩
      refine r_icmp_eq (tgt := 1263) rfl rfl (fun qc243 => ?_) (fun qc243 => ?_)
      · replace hf := xi_pos hf qc243
        exact XR.forget (L2 := [some (.ref 10000000), some (.ref 0), some (.ref 1262), some (.ref 1316), some (.int x4), none, none, none]) ⟨rfl, ⟨rfl, ⟨rfl, ⟨rfl, ⟨rfl, trivial⟩⟩⟩⟩⟩ (kb_law_1263 hl hN hK23 L242 hf)
      · replace hf := xi_neg hf qc243
        refine XS.go (s_iconst (v := 0) rfl rfl) ?_
        cases hf
        exact XR.retz rfl rfl (by decide) (fun hret => ⟨_, hret, ⟨rfl, rfl⟩, L242⟩)
    replace hf := xi_neg hf qs31_19
    by_cases qs31_20 : ((gX G (Int32.toNatClampNeg x4)) &&& 31) = 20
    · replace hf := xi_pos hf qs31_20
      refine XS.go (s_tswI (tgt := 1051) rfl (by rw [qs31_20]; decide) (by rw [qs31_20]; decide) (by rw [qs31_20]; rfl) rfl) ?_
      refine XS.go (s_aloadn rfl rfl rfl) ?_
      refine XS.go (s_aloadn rfl rfl rfl) ?_
      refine XS.go (s_iload rfl rfl) ?_
      refine XS.go (s_iconst (v := 1) rfl rfl) ?_
      refine XS.go (s_iadd rfl) ?_
      replace hf := xi_none hf
      obtain ⟨qk244, hf⟩ := hf
      refine XS.go (s_ald0 rfl (inLit (N := gN G) rfl qk244.1 qk244.2 hN)) ?_
      replace hf := xb_some hf
      obtain ⟨r245, e246, hf⟩ := hf
      refine r_callv rfl xvX11_has xm13_142 (kf_t_has (d := d) L0 e246) (LY.lt L0 (by decide)) (LY.k0 L0) (by decide) rfl rfl (dl (by decide)) (by decide) (Nat.le_of_ble_eq_true rfl) ?_
      rintro _ _ ⟨⟨rfl, rfl⟩, L247⟩
      refine XS.go (s_aloadn rfl rfl rfl) ?_
      refine XS.go (s_aloadn rfl rfl rfl) ?_
      refine XS.go (s_iload rfl rfl) ?_
      refine XS.go (s_iconst (v := 1) rfl rfl) ?_
      refine XS.go (s_iadd rfl) ?_
      replace hf := xi_none hf
      obtain ⟨qk248, hf⟩ := hf
      refine XS.go (s_ald0 rfl (inLit (N := gN G) rfl qk248.1 qk248.2 hN)) ?_
      replace hf := xb_some hf
      obtain ⟨r249, e250, hf⟩ := hf
      refine r_callv rfl xvX12_has xm13_145 (kf_m_has (d := d) L247 e250) (LY.lt L247 (by decide)) (LY.k1262 L247) (by decide) rfl rfl (dl (by decide)) (by decide) (Nat.le_of_ble_eq_true rfl) ?_
      rintro _ _ ⟨⟨rfl, rfl⟩, L251⟩
      refine r_icmp_eq (tgt := 1263) rfl rfl (fun qc252 => ?_) (fun qc252 => ?_)
      · replace hf := xi_pos hf qc252
        exact XR.forget (L2 := [some (.ref 10000000), some (.ref 0), some (.ref 1262), some (.ref 1316), some (.int x4), none, none, none]) ⟨rfl, ⟨rfl, ⟨rfl, ⟨rfl, ⟨rfl, trivial⟩⟩⟩⟩⟩ (kb_law_1263 hl hN hK23 L251 hf)
      · replace hf := xi_neg hf qc252
        refine XS.go (s_iconst (v := 0) rfl rfl) ?_
        cases hf
        exact XR.retz rfl rfl (by decide) (fun hret => ⟨_, hret, ⟨rfl, rfl⟩, L251⟩)
    replace hf := xi_neg hf qs31_20
    by_cases qs31_21 : ((gX G (Int32.toNatClampNeg x4)) &&& 31) = 21
    · replace hf := xi_pos hf qs31_21
      refine XS.go (s_tswI (tgt := 1076) rfl (by rw [qs31_21]; decide) (by rw [qs31_21]; decide) (by rw [qs31_21]; rfl) rfl) ?_
      refine XS.go (s_aloadn rfl rfl rfl) ?_
      refine XS.go (s_aloadn rfl rfl rfl) ?_
      refine XS.go (s_iload rfl rfl) ?_
      refine XS.go (s_iconst (v := 1) rfl rfl) ?_
      refine XS.go (s_iadd rfl) ?_
      replace hf := xi_none hf
      obtain ⟨qk253, hf⟩ := hf
      refine XS.go (s_ald0 rfl (inLit (N := gN G) rfl qk253.1 qk253.2 hN)) ?_
      refine XS.go (s_aloadn rfl rfl rfl) ?_
      replace hf := xb_some hf
      obtain ⟨r254, e255, hf⟩ := hf
      refine r_callsW rfl xwL_read xm13_146 (kf_L_read (d := d) hl L0 e255) rfl rfl (dl (by decide)) (by decide) (Nat.le_of_ble_eq_true rfl) ?_
      rintro _ _ ⟨⟨rfl, rfl⟩, L256⟩
      refine XS.go (XS.lcl (L3 := [some (.ref 10000000), some (.ref 0), some (.ref 1262), some (.ref 1316), some (.int x4), some (.int r254.1), none, none]) (s_istore rfl (Nat.le_of_ble_eq_true rfl)) rfl) ?_
      refine XS.go (s_aloadn rfl rfl rfl) ?_
      refine XS.go (s_aloadn rfl rfl rfl) ?_
      refine XS.go (s_iload rfl rfl) ?_
      refine XS.go (s_iconst (v := 1) rfl rfl) ?_
      refine XS.go (s_iadd rfl) ?_
      replace hf := xi_none hf
      obtain ⟨qk257, hf⟩ := hf
      refine XS.go (s_ald0 rfl (inLit (N := gN G) rfl qk257.1 qk257.2 hN)) ?_
      replace hf := xb_some hf
      obtain ⟨r258, e259, hf⟩ := hf
      refine r_callv rfl xvX12_read xm13_148 (kf_m_read (d := d) L256 e259) (LY.lt L256 (by decide)) (LY.k1262 L256) (by decide) rfl rfl (dl (by decide)) (by decide) (Nat.le_of_ble_eq_true rfl) ?_
      rintro _ _ ⟨⟨rfl, rfl⟩, L260⟩
      refine XS.go (XS.lcl (L3 := [some (.ref 10000000), some (.ref 0), some (.ref 1262), some (.ref 1316), some (.int x4), some (.int r254.1), some (.long r258.1), none]) (s_lstore rfl (Nat.le_of_ble_eq_true rfl)) rfl) ?_
      refine XS.go (s_aloadn rfl rfl rfl) ?_
      replace hf := xb_some hf
      obtain ⟨r261, e262, hf⟩ := hf
      refine r_callv rfl xvX12_thrown xm13_69 (kf_m_thrown (d := d) L260 e262) (LY.lt L260 (by decide)) (LY.k1262 L260) (by decide) rfl rfl (dl0 (by decide)) (by decide) (Nat.le_of_ble_eq_true rfl) ?_
      rintro _ _ ⟨⟨rfl, rfl⟩, L263⟩
      refine XS.go (s_iload rfl rfl) ?_
      refine r_icmp_eq (tgt := 1112) rfl rfl (fun qc264 => ?_) (fun qc264 => ?_)
      · replace hf := xi_pos hf qc264
        refine XS.go (s_iload rfl rfl) ?_
        refine r_if_ne (tgt := 1128) rfl rfl (fun qc265 => ?_) (fun qc265 => ?_)
        · replace hf := xi_pos hf qc265
          exact XR.forget (L2 := [some (.ref 10000000), some (.ref 0), some (.ref 1262), some (.ref 1316), some (.int x4), none, none, none]) ⟨rfl, ⟨rfl, ⟨rfl, ⟨rfl, ⟨rfl, trivial⟩⟩⟩⟩⟩ (kb_law_1128 hl hN hK23 L263 hf)
        · replace hf := xi_neg hf qc265
          refine XS.go (s_aloadn rfl rfl rfl) ?_
          refine XS.go (s_iconst (v := 0) rfl rfl) ?_
          refine XS.go (s_lalde rfl (LY.lt L263 (by decide)) (LY.k1316 L263) (inN (k := 0) (LY.n1316 L263) rfl (by decide) (by decide)) rfl) ?_
          refine XS.go (s_lload rfl rfl) ?_
          refine XS.go (s_lcmp rfl) ?_
          refine r_if_eq (tgt := 1128) rfl rfl (fun qc266 => ?_) (fun qc266 => ?_)
          · replace hf := xi_pos hf qc266
            exact XR.forget (L2 := [some (.ref 10000000), some (.ref 0), some (.ref 1262), some (.ref 1316), some (.int x4), none, none, none]) ⟨rfl, ⟨rfl, ⟨rfl, ⟨rfl, ⟨rfl, trivial⟩⟩⟩⟩⟩ (kb_law_1128 hl hN hK23 L263 hf)
          · replace hf := xi_neg hf qc266
            refine XS.go (s_iconst (v := 0) rfl rfl) ?_
            cases hf
            exact XR.retz rfl rfl (by decide) (fun hret => ⟨_, hret, ⟨rfl, rfl⟩, L263⟩)
      · replace hf := xi_neg hf qc264
        refine XS.go (s_iconst (v := 0) rfl rfl) ?_
        cases hf
        exact XR.retz rfl rfl (by decide) (fun hret => ⟨_, hret, ⟨rfl, rfl⟩, L263⟩)
    replace hf := xi_neg hf qs31_21
    by_cases qs31_22 : ((gX G (Int32.toNatClampNeg x4)) &&& 31) = 22
    · replace hf := xi_pos hf qs31_22
      refine XS.go (s_tswI (tgt := 1131) rfl (by rw [qs31_22]; decide) (by rw [qs31_22]; decide) (by rw [qs31_22]; rfl) rfl) ?_
      refine XS.go (s_aloadn rfl rfl rfl) ?_
      refine XS.go (s_aloadn rfl rfl rfl) ?_
      refine XS.go (s_iload rfl rfl) ?_
      refine XS.go (s_iconst (v := 1) rfl rfl) ?_
      refine XS.go (s_iadd rfl) ?_
      replace hf := xi_none hf
      obtain ⟨qk267, hf⟩ := hf
      refine XS.go (s_ald0 rfl (inLit (N := gN G) rfl qk267.1 qk267.2 hN)) ?_
      replace hf := xb_some hf
      obtain ⟨r268, e269, hf⟩ := hf
      refine r_callv rfl xvX11_into xm13_149 (kf_t_into (d := d) L0 e269) (LY.lt L0 (by decide)) (LY.k0 L0) (by decide) rfl rfl (dl (by decide)) (by decide) (Nat.le_of_ble_eq_true rfl) ?_
      rintro _ _ ⟨⟨rfl, rfl⟩, L270⟩
      refine XS.go (s_aloadn rfl rfl rfl) ?_
      refine XS.go (s_aloadn rfl rfl rfl) ?_
      refine XS.go (s_iload rfl rfl) ?_
      refine XS.go (s_iconst (v := 1) rfl rfl) ?_
      refine XS.go (s_iadd rfl) ?_
      replace hf := xi_none hf
      obtain ⟨qk271, hf⟩ := hf
      refine XS.go (s_ald0 rfl (inLit (N := gN G) rfl qk271.1 qk271.2 hN)) ?_
      replace hf := xb_some hf
      obtain ⟨r272, e273, hf⟩ := hf
      refine r_callv rfl xvX12_into xm13_152 (kf_m_into (d := d) L270 e273) (LY.lt L270 (by decide)) (LY.k1262 L270) (by decide) rfl rfl (dl (by decide)) (by decide) (Nat.le_of_ble_eq_true rfl) ?_
      rintro _ _ ⟨⟨rfl, rfl⟩, L274⟩
      refine r_icmp_eq (tgt := 1263) rfl rfl (fun qc275 => ?_) (fun qc275 => ?_)
      · replace hf := xi_pos hf qc275
        exact XR.forget (L2 := [some (.ref 10000000), some (.ref 0), some (.ref 1262), some (.ref 1316), some (.int x4), none, none, none]) ⟨rfl, ⟨rfl, ⟨rfl, ⟨rfl, ⟨rfl, trivial⟩⟩⟩⟩⟩ (kb_law_1263 hl hN hK23 L274 hf)
      · replace hf := xi_neg hf qc275
        refine XS.go (s_iconst (v := 0) rfl rfl) ?_
        cases hf
        exact XR.retz rfl rfl (by decide) (fun hret => ⟨_, hret, ⟨rfl, rfl⟩, L274⟩)
    replace hf := xi_neg hf qs31_22
    by_cases qs31_23 : ((gX G (Int32.toNatClampNeg x4)) &&& 31) = 23
    · replace hf := xi_pos hf qs31_23
      refine XS.go (s_tswI (tgt := 1156) rfl (by rw [qs31_23]; decide) (by rw [qs31_23]; decide) (by rw [qs31_23]; rfl) rfl) ?_
      refine XS.go (s_aloadn rfl rfl rfl) ?_
      replace hf := xb_some hf
      obtain ⟨r276, e277, hf⟩ := hf
      refine r_callv rfl xvX11_up xm13_153 (kf_t_up (d := d) L0 e277) (LY.lt L0 (by decide)) (LY.k0 L0) (by decide) rfl rfl (dl (by decide)) (by decide) (Nat.le_of_ble_eq_true rfl) ?_
      rintro _ _ ⟨⟨rfl, rfl⟩, L278⟩
      refine XS.go (s_aloadn rfl rfl rfl) ?_
      replace hf := xb_some hf
      obtain ⟨r279, e280, hf⟩ := hf
      refine r_callv rfl xvX12_up xm13_156 (kf_m_up (d := d) L278 e280) (LY.lt L278 (by decide)) (LY.k1262 L278) (by decide) rfl rfl (dl (by decide)) (by decide) (Nat.le_of_ble_eq_true rfl) ?_
      rintro _ _ ⟨⟨rfl, rfl⟩, L281⟩
      refine r_icmp_eq (tgt := 1263) rfl rfl (fun qc282 => ?_) (fun qc282 => ?_)
      · replace hf := xi_pos hf qc282
        exact XR.forget (L2 := [some (.ref 10000000), some (.ref 0), some (.ref 1262), some (.ref 1316), some (.int x4), none, none, none]) ⟨rfl, ⟨rfl, ⟨rfl, ⟨rfl, ⟨rfl, trivial⟩⟩⟩⟩⟩ (kb_law_1263 hl hN hK23 L281 hf)
      · replace hf := xi_neg hf qc282
        refine XS.go (s_iconst (v := 0) rfl rfl) ?_
        cases hf
        exact XR.retz rfl rfl (by decide) (fun hret => ⟨_, hret, ⟨rfl, rfl⟩, L281⟩)
    replace hf := xi_neg hf qs31_23
    by_cases qs31_24 : ((gX G (Int32.toNatClampNeg x4)) &&& 31) = 24
    · replace hf := xi_pos hf qs31_24
      refine XS.go (s_tswI (tgt := 1169) rfl (by rw [qs31_24]; decide) (by rw [qs31_24]; decide) (by rw [qs31_24]; rfl) rfl) ?_
      refine XS.go (s_aloadn rfl rfl rfl) ?_
      refine XS.go (s_aloadn rfl rfl rfl) ?_
      refine XS.go (s_iload rfl rfl) ?_
      refine XS.go (s_iconst (v := 1) rfl rfl) ?_
      refine XS.go (s_iadd rfl) ?_
      replace hf := xi_none hf
      obtain ⟨qk283, hf⟩ := hf
      refine XS.go (s_ald0 rfl (inLit (N := gN G) rfl qk283.1 qk283.2 hN)) ?_
      refine XS.go (s_aloadn rfl rfl rfl) ?_
      refine XS.go (s_iload rfl rfl) ?_
      refine XS.go (s_iconst (v := 2) rfl rfl) ?_
      refine XS.go (s_iadd rfl) ?_
      replace hf := xi_none hf
      obtain ⟨qk284, hf⟩ := hf
      refine XS.go (s_ald0 rfl (inLit (N := gN G) rfl qk284.1 qk284.2 hN)) ?_
      refine XS.go (s_i2l rfl) ?_
      refine XS.go (s_bipush (v := 32) rfl rfl) ?_
      refine XS.go (s_lshl rfl) ?_
      refine XS.go (s_aloadn rfl rfl rfl) ?_
      refine XS.go (s_iload rfl rfl) ?_
      refine XS.go (s_iconst (v := 3) rfl rfl) ?_
      refine XS.go (s_iadd rfl) ?_
      replace hf := xi_none hf
      obtain ⟨qk285, hf⟩ := hf
      refine XS.go (s_ald0 rfl (inLit (N := gN G) rfl qk285.1 qk285.2 hN)) ?_
      refine XS.go (s_i2l rfl) ?_
      refine XS.go (s_ldc2 rfl (lg_10 61 rfl rfl)) ?_
      refine XS.go (s_land rfl) ?_
      refine XS.go (s_lor rfl) ?_
      replace hf := xb_some hf
      obtain ⟨r286, e287, hf⟩ := hf
      refine r_callv rfl xvX11_write xm13_157 (kf_t_write (d := d) L0 e287) (LY.lt L0 (by decide)) (LY.k0 L0) (by decide) rfl rfl (dl (by decide)) (by decide) (Nat.le_of_ble_eq_true rfl) ?_
      rintro _ _ ⟨⟨rfl, rfl⟩, L288⟩
      refine XS.go (s_aloadn rfl rfl rfl) ?_
      refine XS.go (s_aloadn rfl rfl rfl) ?_
      refine XS.go (s_iload rfl rfl) ?_
      refine XS.go (s_iconst (v := 1) rfl rfl) ?_
      refine XS.go (s_iadd rfl) ?_
      replace hf := xi_none hf
      obtain ⟨qk289, hf⟩ := hf
      refine XS.go (s_ald0 rfl (inLit (N := gN G) rfl qk289.1 qk289.2 hN)) ?_
      refine XS.go (s_aloadn rfl rfl rfl) ?_
      refine XS.go (s_iload rfl rfl) ?_
      refine XS.go (s_iconst (v := 2) rfl rfl) ?_
      refine XS.go (s_iadd rfl) ?_
      replace hf := xi_none hf
      obtain ⟨qk290, hf⟩ := hf
      refine XS.go (s_ald0 rfl (inLit (N := gN G) rfl qk290.1 qk290.2 hN)) ?_
      refine XS.go (s_i2l rfl) ?_
      refine XS.go (s_bipush (v := 32) rfl rfl) ?_
      refine XS.go (s_lshl rfl) ?_
      refine XS.go (s_aloadn rfl rfl rfl) ?_
      refine XS.go (s_iload rfl rfl) ?_
      refine XS.go (s_iconst (v := 3) rfl rfl) ?_
      refine XS.go (s_iadd rfl) ?_
      replace hf := xi_none hf
      obtain ⟨qk291, hf⟩ := hf
      refine XS.go (s_ald0 rfl (inLit (N := gN G) rfl qk291.1 qk291.2 hN)) ?_
      refine XS.go (s_i2l rfl) ?_
      refine XS.go (s_ldc2 rfl (lg_10 61 rfl rfl)) ?_
      refine XS.go (s_land rfl) ?_
      refine XS.go (s_lor rfl) ?_
      replace hf := xb_some hf
      obtain ⟨r292, e293, hf⟩ := hf
      refine r_callv rfl xvX12_write xm13_161 (kf_m_write (d := d) L288 e293) (LY.lt L288 (by decide)) (LY.k1262 L288) (by decide) rfl rfl (dl (by decide)) (by decide) (Nat.le_of_ble_eq_true rfl) ?_
      rintro _ _ ⟨⟨rfl, rfl⟩, L294⟩
      refine r_icmp_eq (tgt := 1263) rfl rfl (fun qc295 => ?_) (fun qc295 => ?_)
      · replace hf := xi_pos hf qc295
        exact XR.forget (L2 := [some (.ref 10000000), some (.ref 0), some (.ref 1262), some (.ref 1316), some (.int x4), none, none, none]) ⟨rfl, ⟨rfl, ⟨rfl, ⟨rfl, ⟨rfl, trivial⟩⟩⟩⟩⟩ (kb_law_1263 hl hN hK23 L294 hf)
      · replace hf := xi_neg hf qc295
        refine XS.go (s_iconst (v := 0) rfl rfl) ?_
        cases hf
        exact XR.retz rfl rfl (by decide) (fun hret => ⟨_, hret, ⟨rfl, rfl⟩, L294⟩)
    replace hf := xi_neg hf qs31_24
    by_cases qs31_25 : ((gX G (Int32.toNatClampNeg x4)) &&& 31) = 25
    · replace hf := xi_pos hf qs31_25
      refine XS.go (s_tswI (tgt := 1238) rfl (by rw [qs31_25]; decide) (by rw [qs31_25]; decide) (by rw [qs31_25]; rfl) rfl) ?_
      refine XS.go (s_aloadn rfl rfl rfl) ?_
      refine XS.go (s_aloadn rfl rfl rfl) ?_
      refine XS.go (s_iload rfl rfl) ?_
      refine XS.go (s_iconst (v := 1) rfl rfl) ?_
      refine XS.go (s_iadd rfl) ?_
      replace hf := xi_none hf
      obtain ⟨qk296, hf⟩ := hf
      refine XS.go (s_ald0 rfl (inLit (N := gN G) rfl qk296.1 qk296.2 hN)) ?_
      replace hf := xb_some hf
      obtain ⟨r297, e298, hf⟩ := hf
      refine r_callv rfl xvX11_byteAt xm13_162 (kf_t_byteAt (d := d) L0 e298) (LY.lt L0 (by decide)) (LY.k0 L0) (by decide) rfl rfl (dl (by decide)) (by decide) (Nat.le_of_ble_eq_true rfl) ?_
      rintro _ _ ⟨⟨rfl, rfl⟩, L299⟩
      refine XS.go (s_aloadn rfl rfl rfl) ?_
      refine XS.go (s_aloadn rfl rfl rfl) ?_
      refine XS.go (s_iload rfl rfl) ?_
      refine XS.go (s_iconst (v := 1) rfl rfl) ?_
      refine XS.go (s_iadd rfl) ?_
      replace hf := xi_none hf
      obtain ⟨qk300, hf⟩ := hf
      refine XS.go (s_ald0 rfl (inLit (N := gN G) rfl qk300.1 qk300.2 hN)) ?_
      replace hf := xb_some hf
      obtain ⟨r301, e302, hf⟩ := hf
      refine r_callv rfl xvX12_byteAt xm13_165 (kf_m_byteAt (d := d) L299 e302) (LY.lt L299 (by decide)) (LY.k1262 L299) (by decide) rfl rfl (dl0 (by decide)) (by decide) (Nat.le_of_ble_eq_true rfl) ?_
      rintro _ _ ⟨⟨rfl, rfl⟩, L303⟩
      refine r_icmp_eq (tgt := 1263) rfl rfl (fun qc304 => ?_) (fun qc304 => ?_)
      · replace hf := xi_pos hf qc304
        exact XR.forget (L2 := [some (.ref 10000000), some (.ref 0), some (.ref 1262), some (.ref 1316), some (.int x4), none, none, none]) ⟨rfl, ⟨rfl, ⟨rfl, ⟨rfl, ⟨rfl, trivial⟩⟩⟩⟩⟩ (kb_law_1263 hl hN hK23 L303 hf)
      · replace hf := xi_neg hf qc304
        refine XS.go (s_iconst (v := 0) rfl rfl) ?_
        cases hf
        exact XR.retz rfl rfl (by decide) (fun hret => ⟨_, hret, ⟨rfl, rfl⟩, L303⟩)
    replace hf := xi_neg hf qs31_25
    have qs31_o : (((gX G (Int32.toNatClampNeg x4)) &&& 31)).toInt < 0 ∨ 25 < (((gX G (Int32.toNatClampNeg x4)) &&& 31)).toInt := by
      refine tsw_out 0 25 (by decide) ?_
      intro k h1 h2
      have z : k = 0 ∨ k = 1 ∨ k = 2 ∨ k = 3 ∨ k = 4 ∨ k = 5 ∨ k = 6 ∨ k = 7 ∨ k = 8 ∨ k = 9 ∨ k = 10 ∨ k = 11 ∨ k = 12 ∨ k = 13 ∨ k = 14 ∨ k = 15 ∨ k = 16 ∨ k = 17 ∨ k = 18 ∨ k = 19 ∨ k = 20 ∨ k = 21 ∨ k = 22 ∨ k = 23 ∨ k = 24 ∨ k = 25 := by omega
      rcases z with rfl | rfl | rfl | rfl | rfl | rfl | rfl | rfl | rfl | rfl | rfl | rfl | rfl | rfl | rfl | rfl | rfl | rfl | rfl | rfl | rfl | rfl | rfl | rfl | rfl | rfl
      · exact qs31_0
      · exact qs31_1
      · exact qs31_2
      · exact qs31_3
      · exact qs31_4
      · exact qs31_5
      · exact qs31_6
      · exact qs31_7
      · exact qs31_8
      · exact qs31_9
      · exact qs31_10
      · exact qs31_11
      · exact qs31_12
      · exact qs31_13
      · exact qs31_14
      · exact qs31_15
      · exact qs31_16
      · exact qs31_17
      · exact qs31_18
      · exact qs31_19
      · exact qs31_20
      · exact qs31_21
      · exact qs31_22
      · exact qs31_23
      · exact qs31_24
      · exact qs31_25
    refine XS.go (s_tswO (tgt := 1263) rfl qs31_o rfl) ?_
    exact XR.forget (L2 := [some (.ref 10000000), some (.ref 0), some (.ref 1262), some (.ref 1316), some (.int x4), none, none, none]) ⟨rfl, ⟨rfl, ⟨rfl, ⟨rfl, ⟨rfl, trivial⟩⟩⟩⟩⟩ (kb_law_1263 hl hN hK23 L0 hf)
def b_law_23 (G : XG) : Nat → Int32 → XH → Option (Int32 × XH)
  | 0, _, _ => none
  | n + 1, x4, h => s_law_23 G (b_law_23 G n) x4 h
theorem kb_law_23 {l : Launch} {G : XG} {d : Nat} {n : Nat} {x4 : Int32} {h : XH} {r : Int32 × XH} (hl : l.stackTraces = false) (hN : gN G < 2147483648) (L0 : LY h) (hf : b_law_23 G n x4 h = some r) : XR l G xEL_law (d + 204) (23, [some (.ref 10000000), some (.ref 0), some (.ref 1262), some (.ref 1316), some (.int x4), none, none, none], [], h) (fun C => ∃ v, xRet xEL_law C v ∧ (C.2.2.2 = r.2 ∧ v = some (.int r.1)) ∧ LY r.2) := by
  induction n generalizing x4 h with
  | zero => cases hf
  | succ n ih => exact ks_law_23 hl hN (fun x4 h L0 hf => ih (h := h) (x4 := x4) L0 hf) L0 hf
