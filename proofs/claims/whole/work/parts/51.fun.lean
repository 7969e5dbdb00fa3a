/-! Methods as functions of the heap -/
def b_u_prepareList_90 (x1 : Int32) (h : XH) : Option (Unit × XH) := (some ((), (hsi (hsi h 1254 (Int32.toNatClampNeg 0) (2 * (hi h 1244 15))) 1254 (Int32.toNatClampNeg 1) (x1 - (hi h 1244 11)))))
set_option maxRecDepth 20000 in
theorem kb_u_prepareList_90 {l : Launch} {G : XG} {d : Nat} {x1 : Int32} {h : XH} {r : Unit × XH} (L0 : LY h) (hf : b_u_prepareList_90 x1 h = some r) : XR l G xEX0_prepareList d (90, [some (.ref 1244), some (.int x1), none, none], [], h) (fun C => ∃ v, xRet xEX0_prepareList C v ∧ (C.2.2.2 = r.2 ∧ v = none) ∧ LY r.2) := by
  unfold b_u_prepareList_90 at hf
  refine XS.go (s_aloadn rfl rfl rfl) ?_
  refine XS.go (s_getr rfl xf0_60 (LY.lt L0 (by decide)) (LY.k1244 L0) (by decide) rfl (LY.r1244_14 L0)) ?_
  refine XS.go (s_iconst (v := 0) rfl rfl) ?_
  refine XS.go (s_iconst (v := 2) rfl rfl) ?_
  refine XS.go (s_aloadn rfl rfl rfl) ?_
  refine XS.go (s_getie rfl xf0_63 (LY.lt L0 (by decide)) (LY.k1244 L0) (by decide) rfl rfl) ?_
  refine XS.go (s_imul rfl) ?_
  refine XS.go (s_iast rfl (LY.lt L0 (by decide)) (LY.k1254 L0) (inN (k := 0) (LY.n1254 L0) rfl (by decide) (by decide))) ?_
  refine XS.go (s_aloadn rfl rfl rfl) ?_
  refine XS.go (s_getr rfl xf0_60 (LY.lt (by simp only [LY_si, LY_sj]; exact L0) (by decide)) (LY.k1244 (by simp only [LY_si, LY_sj]; exact L0)) (by decide) rfl (LY.r1244_14 (by simp only [LY_si, LY_sj]; exact L0))) ?_
  refine XS.go (s_iconst (v := 1) rfl rfl) ?_
  refine XS.go (s_iloadn rfl rfl rfl) ?_
  refine XS.go (s_aloadn rfl rfl rfl) ?_
  refine XS.go (s_getie rfl xf0_50 (LY.lt (by simp only [LY_si, LY_sj]; exact L0) (by decide)) (LY.k1244 (by simp only [LY_si, LY_sj]; exact L0)) (by decide) rfl (hi_hsi_na (by decide))) ?_
  refine XS.go (s_isub rfl) ?_
  refine XS.go (s_iast rfl (LY.lt (by simp only [LY_si, LY_sj]; exact L0) (by decide)) (LY.k1254 (by simp only [LY_si, LY_sj]; exact L0)) (inN (k := 1) (LY.n1254 (by simp only [LY_si, LY_sj]; exact L0)) rfl (by decide) (by decide))) ?_
  cases hf
  exact XR.retv rfl rfl (fun hret => ⟨_, hret, ⟨rfl, rfl⟩, (by simp only [LY_si, LY_sj]; exact L0)⟩)
def b_u_prepareList_81 (K7 : Int32 → Int32 → XH → Option (Unit × XH)) (x1 : Int32) (x2 : Int32) (y1 : Int32) (h : XH) : Option (Unit × XH) := (K7 x1 (x2 + 1) (hsi h 1244 15 y1))
set_option maxRecDepth 20000 in
theorem kb_u_prepareList_81 {l : Launch} {G : XG} {d : Nat} {K7 : Int32 → Int32 → XH → Option (Unit × XH)} {x1 : Int32} {x2 : Int32} {y1 : Int32} {h : XH} {r : Unit × XH} (hK7 : ∀ (x1 : Int32) (x2 : Int32) (h : XH), LY h → K7 x1 x2 h = some r → XR l G xEX0_prepareList d (7, [some (.ref 1244), some (.int x1), some (.int x2), none], [], h) (fun C => ∃ v, xRet xEX0_prepareList C v ∧ (C.2.2.2 = r.2 ∧ v = none) ∧ LY r.2)) (L0 : LY h) (hf : b_u_prepareList_81 K7 x1 x2 y1 h = some r) : XR l G xEX0_prepareList d (81, [some (.ref 1244), some (.int x1), some (.int x2), none], [(.int y1), (.ref 1244)], h) (fun C => ∃ v, xRet xEX0_prepareList C v ∧ (C.2.2.2 = r.2 ∧ v = none) ∧ LY r.2) := by
  unfold b_u_prepareList_81 at hf
  refine XS.go (s_puti rfl xf0_63 (LY.lt L0 (by decide)) (LY.k1244 L0) (by decide) rfl (Or.inl rfl)) ?_
  refine XS.go (XS.lcl (L3 := [some (.ref 1244), some (.int x1), some (.int (x2 + 1)), none]) (s_inc rfl rfl (Nat.le_of_ble_eq_true rfl)) rfl) ?_
  refine XS.go (s_goto (tgt := 7) rfl rfl) ?_
  exact XR.forget (L2 := [some (.ref 1244), some (.int x1), some (.int (x2 + 1)), none]) ⟨rfl, ⟨rfl, ⟨rfl, trivial⟩⟩⟩ (hK7 x1 (x2 + 1) _ (by simp only [LY_si, LY_sj]; exact L0) hf)
def b_u_prepareList_65 (K7 : Int32 → Int32 → XH → Option (Unit × XH)) (x1 : Int32) (x2 : Int32) (x3 : Int32) (y1 : Int32) (y2 : Int32) (h : XH) : Option (Unit × XH) := (if 0 ≤ y1 ∧ y1 < nI 34 then (if x3 = 0 then (b_u_prepareList_81 K7 x1 x2 (hi h 1244 15) (hsi h 1254 (Int32.toNatClampNeg y1) y2)) else (b_u_prepareList_81 K7 x1 x2 (x2 + 3) (hsi h 1254 (Int32.toNatClampNeg y1) y2))) else none)
set_option maxRecDepth 20000 in
theorem kb_u_prepareList_65 {l : Launch} {G : XG} {d : Nat} {K7 : Int32 → Int32 → XH → Option (Unit × XH)} {x1 : Int32} {x2 : Int32} {x3 : Int32} {y1 : Int32} {y2 : Int32} {h : XH} {r : Unit × XH} (hK7 : ∀ (x1 : Int32) (x2 : Int32) (h : XH), LY h → K7 x1 x2 h = some r → XR l G xEX0_prepareList d (7, [some (.ref 1244), some (.int x1), some (.int x2), none], [], h) (fun C => ∃ v, xRet xEX0_prepareList C v ∧ (C.2.2.2 = r.2 ∧ v = none) ∧ LY r.2)) (L0 : LY h) (hf : b_u_prepareList_65 K7 x1 x2 x3 y1 y2 h = some r) : XR l G xEX0_prepareList d (65, [some (.ref 1244), some (.int x1), some (.int x2), some (.int x3)], [(.int y2), (.int y1), (.ref 1254)], h) (fun C => ∃ v, xRet xEX0_prepareList C v ∧ (C.2.2.2 = r.2 ∧ v = none) ∧ LY r.2) := by
  unfold b_u_prepareList_65 at hf
  replace hf := xi_none hf
  obtain ⟨qk1, hf⟩ := hf
  refine XS.go (s_iast rfl (LY.lt L0 (by decide)) (LY.k1254 L0) (inLit (LY.n1254 L0) qk1.1 qk1.2 (by decide))) ?_
  refine XS.go (s_aloadn rfl rfl rfl) ?_
  refine XS.go (s_iloadn rfl rfl rfl) ?_
  refine r_if_eq (tgt := 77) rfl rfl (fun qc2 => ?_) (fun qc2 => ?_)
  · replace hf := xi_pos hf qc2
    refine XS.go (s_aloadn rfl rfl rfl) ?_
    refine XS.go (s_getie rfl xf0_63 (LY.lt (by simp only [LY_si, LY_sj]; exact L0) (by decide)) (LY.k1244 (by simp only [LY_si, LY_sj]; exact L0)) (by decide) rfl (hi_hsi_na (by decide))) ?_
    exact XR.forget (L2 := [some (.ref 1244), some (.int x1), some (.int x2), none]) ⟨rfl, ⟨rfl, ⟨rfl, trivial⟩⟩⟩ (kb_u_prepareList_81 hK7 (by simp only [LY_si, LY_sj]; exact L0) hf)
  · replace hf := xi_neg hf qc2
    refine XS.go (s_iloadn rfl rfl rfl) ?_
    refine XS.go (s_iconst (v := 3) rfl rfl) ?_
    refine XS.go (s_iadd rfl) ?_
    refine XS.go (s_goto (tgt := 81) rfl rfl) ?_
    exact XR.forget (L2 := [some (.ref 1244), some (.int x1), some (.int x2), none]) ⟨rfl, ⟨rfl, ⟨rfl, trivial⟩⟩⟩ (kb_u_prepareList_81 hK7 (by simp only [LY_si, LY_sj]; exact L0) hf)
def b_u_prepareList_41 (K7 : Int32 → Int32 → XH → Option (Unit × XH)) (x1 : Int32) (x2 : Int32) (y0 : Int32) (h : XH) : Option (Unit × XH) := (if y0 = 0 then (b_u_prepareList_65 K7 x1 x2 y0 (x2 + 2) 0 h) else (if 0 ≤ x2 ∧ x2 < nI 32 then (b_u_prepareList_65 K7 x1 x2 y0 (x2 + 2) (x1 - (hi h 1253 (Int32.toNatClampNeg x2))) h) else none))
set_option maxRecDepth 20000 in
theorem kb_u_prepareList_41 {l : Launch} {G : XG} {d : Nat} {K7 : Int32 → Int32 → XH → Option (Unit × XH)} {x1 : Int32} {x2 : Int32} {y0 : Int32} {h : XH} {r : Unit × XH} (hK7 : ∀ (x1 : Int32) (x2 : Int32) (h : XH), LY h → K7 x1 x2 h = some r → XR l G xEX0_prepareList d (7, [some (.ref 1244), some (.int x1), some (.int x2), none], [], h) (fun C => ∃ v, xRet xEX0_prepareList C v ∧ (C.2.2.2 = r.2 ∧ v = none) ∧ LY r.2)) (L0 : LY h) (hf : b_u_prepareList_41 K7 x1 x2 y0 h = some r) : XR l G xEX0_prepareList d (41, [some (.ref 1244), some (.int x1), some (.int x2), none], [(.int y0)], h) (fun C => ∃ v, xRet xEX0_prepareList C v ∧ (C.2.2.2 = r.2 ∧ v = none) ∧ LY r.2) := by
  unfold b_u_prepareList_41 at hf
  refine XS.go (XS.lcl (L3 := [some (.ref 1244), some (.int x1), some (.int x2), some (.int y0)]) (s_istoren rfl rfl (Nat.le_of_ble_eq_true rfl)) rfl) ?_
  refine XS.go (s_aloadn rfl rfl rfl) ?_
  refine XS.go (s_getr rfl xf0_60 (LY.lt L0 (by decide)) (LY.k1244 L0) (by decide) rfl (LY.r1244_14 L0)) ?_
  refine XS.go (s_iloadn rfl rfl rfl) ?_
  refine XS.go (s_iconst (v := 2) rfl rfl) ?_
  refine XS.go (s_iadd rfl) ?_
  refine XS.go (s_iloadn rfl rfl rfl) ?_
  refine r_if_eq (tgt := 64) rfl rfl (fun qc3 => ?_) (fun qc3 => ?_)
  · replace hf := xi_pos hf qc3
    refine XS.go (s_iconst (v := 0) rfl rfl) ?_
    exact XR.forget (L2 := [some (.ref 1244), some (.int x1), some (.int x2), some (.int y0)]) ⟨rfl, ⟨rfl, ⟨rfl, ⟨rfl, trivial⟩⟩⟩⟩ (kb_u_prepareList_65 hK7 L0 hf)
  · replace hf := xi_neg hf qc3
    refine XS.go (s_iloadn rfl rfl rfl) ?_
    refine XS.go (s_aloadn rfl rfl rfl) ?_
    refine XS.go (s_getr rfl xf0_57 (LY.lt L0 (by decide)) (LY.k1244 L0) (by decide) rfl (LY.r1244_13 L0)) ?_
    refine XS.go (s_iloadn rfl rfl rfl) ?_
    replace hf := xi_none hf
    obtain ⟨qk4, hf⟩ := hf
    refine XS.go (s_ialde rfl (LY.lt L0 (by decide)) (LY.k1253 L0) (inLit (LY.n1253 L0) qk4.1 qk4.2 (by decide)) rfl) ?_
    refine XS.go (s_isub rfl) ?_
    refine XS.go (s_goto (tgt := 65) rfl rfl) ?_
    exact XR.forget (L2 := [some (.ref 1244), some (.int x1), some (.int x2), some (.int y0)]) ⟨rfl, ⟨rfl, ⟨rfl, ⟨rfl, trivial⟩⟩⟩⟩ (kb_u_prepareList_65 hK7 L0 hf)
def s_u_prepareList_7 (K7 : Int32 → Int32 → XH → Option (Unit × XH)) (x1 : Int32) (x2 : Int32) (h : XH) : Option (Unit × XH) := (if (nI 32) ≤ x2 then (b_u_prepareList_90 x1 h) else (if (nI 34) ≤ (x2 + 2) then (b_u_prepareList_90 x1 h) else (if 0 ≤ x2 ∧ x2 < nI 32 then (if (hi h 1253 (Int32.toNatClampNeg x2)) = 0 then (b_u_prepareList_41 K7 x1 x2 0 h) else (b_u_prepareList_41 K7 x1 x2 1 h)) else none)))
set_option maxRecDepth 20000 in
theorem ks_u_prepareList_7 {l : Launch} {G : XG} {d : Nat} {K7 : Int32 → Int32 → XH → Option (Unit × XH)} {x1 : Int32} {x2 : Int32} {h : XH} {r : Unit × XH} (hK7 : ∀ (x1 : Int32) (x2 : Int32) (h : XH), LY h → K7 x1 x2 h = some r → XR l G xEX0_prepareList d (7, [some (.ref 1244), some (.int x1), some (.int x2), none], [], h) (fun C => ∃ v, xRet xEX0_prepareList C v ∧ (C.2.2.2 = r.2 ∧ v = none) ∧ LY r.2)) (L0 : LY h) (hf : s_u_prepareList_7 K7 x1 x2 h = some r) : XR l G xEX0_prepareList d (7, [some (.ref 1244), some (.int x1), some (.int x2), none], [], h) (fun C => ∃ v, xRet xEX0_prepareList C v ∧ (C.2.2.2 = r.2 ∧ v = none) ∧ LY r.2) := by
  unfold s_u_prepareList_7 at hf
  refine XS.go (s_iloadn rfl rfl rfl) ?_
  refine XS.go (s_aloadn rfl rfl rfl) ?_
  refine XS.go (s_getr rfl xf0_57 (LY.lt L0 (by decide)) (LY.k1244 L0) (by decide) rfl (LY.r1244_13 L0)) ?_
  refine XS.go (s_alene rfl (LY.lt L0 (by decide)) (LY.k1253 L0) (LY.n1253 L0) (by decide)) ?_
  refine r_icmp_ge (tgt := 90) rfl rfl (fun qc5 => ?_) (fun qc5 => ?_)
  · replace hf := xi_pos hf qc5
    exact XR.forget (L2 := [some (.ref 1244), some (.int x1), none, none]) ⟨rfl, ⟨rfl, trivial⟩⟩ (kb_u_prepareList_90 L0 hf)
  · replace hf := xi_neg hf qc5
    refine XS.go (s_iloadn rfl rfl rfl) ?_
    refine XS.go (s_iconst (v := 2) rfl rfl) ?_
    refine XS.go (s_iadd rfl) ?_
    refine XS.go (s_aloadn rfl rfl rfl) ?_
    refine XS.go (s_getr rfl xf0_60 (LY.lt L0 (by decide)) (LY.k1244 L0) (by decide) rfl (LY.r1244_14 L0)) ?_
    refine XS.go (s_alene rfl (LY.lt L0 (by decide)) (LY.k1254 L0) (LY.n1254 L0) (by decide)) ?_
    refine r_icmp_ge (tgt := 90) rfl rfl (fun qc6 => ?_) (fun qc6 => ?_)
    · replace hf := xi_pos hf qc6
      exact XR.forget (L2 := [some (.ref 1244), some (.int x1), none, none]) ⟨rfl, ⟨rfl, trivial⟩⟩ (kb_u_prepareList_90 L0 hf)
    · replace hf := xi_neg hf qc6
      refine XS.go (s_aloadn rfl rfl rfl) ?_
      refine XS.go (s_getr rfl xf0_57 (LY.lt L0 (by decide)) (LY.k1244 L0) (by decide) rfl (LY.r1244_13 L0)) ?_
      refine XS.go (s_iloadn rfl rfl rfl) ?_
      replace hf := xi_none hf
      obtain ⟨qk7, hf⟩ := hf
      refine XS.go (s_ialde rfl (LY.lt L0 (by decide)) (LY.k1253 L0) (inLit (LY.n1253 L0) qk7.1 qk7.2 (by decide)) rfl) ?_
      refine r_if_eq (tgt := 40) rfl rfl (fun qc8 => ?_) (fun qc8 => ?_)
      · replace hf := xi_pos hf qc8
        refine XS.go (s_iconst (v := 0) rfl rfl) ?_
        exact XR.forget (L2 := [some (.ref 1244), some (.int x1), some (.int x2), none]) ⟨rfl, ⟨rfl, ⟨rfl, trivial⟩⟩⟩ (kb_u_prepareList_41 hK7 L0 hf)
      · replace hf := xi_neg hf qc8
        refine XS.go (s_iconst (v := 1) rfl rfl) ?_
        refine XS.go (s_goto (tgt := 41) rfl rfl) ?_
        exact XR.forget (L2 := [some (.ref 1244), some (.int x1), some (.int x2), none]) ⟨rfl, ⟨rfl, ⟨rfl, trivial⟩⟩⟩ (kb_u_prepareList_41 hK7 L0 hf)
def b_u_prepareList_7 : Nat → Int32 → Int32 → XH → Option (Unit × XH)
  | 0, _, _, _ => none
  | n + 1, x1, x2, h => s_u_prepareList_7 (b_u_prepareList_7 n) x1 x2 h
theorem kb_u_prepareList_7 {l : Launch} {G : XG} {d : Nat} {n : Nat} {x1 : Int32} {x2 : Int32} {h : XH} {r : Unit × XH} (L0 : LY h) (hf : b_u_prepareList_7 n x1 x2 h = some r) : XR l G xEX0_prepareList d (7, [some (.ref 1244), some (.int x1), some (.int x2), none], [], h) (fun C => ∃ v, xRet xEX0_prepareList C v ∧ (C.2.2.2 = r.2 ∧ v = none) ∧ LY r.2) := by
  induction n generalizing x1 x2 h with
  | zero => cases hf
  | succ n ih => exact ks_u_prepareList_7 (fun x1 x2 h L0 hf => ih (h := h) (x1 := x1) (x2 := x2) L0 hf) L0 hf
def f_u_prepareList (a0 : Int32) (h : XH) : Option (Unit × XH) := (b_u_prepareList_7 100000 a0 0 (hsi h 1244 15 2))
set_option maxRecDepth 20000 in
theorem kf_u_prepareList {l : Launch} {G : XG} {d : Nat} {a0 : Int32} {h : XH} {r : Unit × XH} (L0 : LY h) (hf : f_u_prepareList a0 h = some r) : XC l G xEX0_prepareList d [.ref 1244, .int a0] h (fun v h2 => (h2 = r.2 ∧ v = none) ∧ LY r.2) := by
  refine XC.virt xvX0_prepareList (Nat.le_of_ble_eq_true rfl) ?_
  unfold f_u_prepareList at hf
  refine XR.norm (L3 := [some (.ref 1244), some (.int a0), none, none]) rfl ?_
  refine XS.go (s_aloadn rfl rfl rfl) ?_
  refine XS.go (s_iconst (v := 2) rfl rfl) ?_
  refine XS.go (s_puti rfl xf0_63 (LY.lt L0 (by decide)) (LY.k1244 L0) (by decide) rfl (Or.inl rfl)) ?_
  refine XS.go (s_iconst (v := 0) rfl rfl) ?_
  refine XS.go (XS.lcl (L3 := [some (.ref 1244), some (.int a0), some (.int 0), none]) (s_istoren rfl rfl (Nat.le_of_ble_eq_true rfl)) rfl) ?_
  exact XR.forget (L2 := [some (.ref 1244), some (.int a0), some (.int 0), none]) ⟨rfl, ⟨rfl, ⟨rfl, trivial⟩⟩⟩ (kb_u_prepareList_7 (by simp only [LY_si, LY_sj]; exact L0) hf)
def b_u_putList_99 (h : XH) : Option (Int32 × XH) := (some ((hi h 1244 1), h))
set_option maxRecDepth 20000 in
theorem kb_u_putList_99 {l : Launch} {G : XG} {d : Nat} {h : XH} {r : Int32 × XH} (L0 : LY h) (hf : b_u_putList_99 h = some r) : XR l G xEX0_putList (d + 2) (99, [some (.ref 1244), none, none], [], h) (fun C => ∃ v, xRet xEX0_putList C v ∧ (C.2.2.2 = r.2 ∧ v = some (.int r.1)) ∧ LY r.2) := by
  unfold b_u_putList_99 at hf
  refine XS.go (s_aloadn rfl rfl rfl) ?_
  refine XS.go (s_getie rfl xf0_18 (LY.lt L0 (by decide)) (LY.k1244 L0) (by decide) rfl rfl) ?_
  cases hf
  exact XR.reti rfl rfl (fun hret => ⟨_, hret, ⟨rfl, rfl⟩, L0⟩)
def b_u_putList_57 (h : XH) : Option (Int32 × XH) := (if (hi h 1244 9) < 0 then (b_u_putList_99 h) else (if (nI 300) ≤ (hi h 1244 9) then (b_u_putList_99 h) else (b_u_putList_99 (hsi (hsi h 1251 (Int32.toNatClampNeg (hi h 1244 9)) (hi h 1244 1)) 1244 9 ((hi h 1244 9) + 1)))))
set_option maxRecDepth 20000 in
theorem kb_u_putList_57 {l : Launch} {G : XG} {d : Nat} {h : XH} {r : Int32 × XH} (L0 : LY h) (hf : b_u_putList_57 h = some r) : XR l G xEX0_putList (d + 2) (57, [some (.ref 1244), none, none], [], h) (fun C => ∃ v, xRet xEX0_putList C v ∧ (C.2.2.2 = r.2 ∧ v = some (.int r.1)) ∧ LY r.2) := by
  unfold b_u_putList_57 at hf
  refine XS.go (s_aloadn rfl rfl rfl) ?_
  refine XS.go (s_getie rfl xf0_44 (LY.lt L0 (by decide)) (LY.k1244 L0) (by decide) rfl rfl) ?_
  refine r_if_lt (tgt := 99) rfl rfl (fun qc1 => ?_) (fun qc1 => ?_)
  · replace hf := xi_pos hf qc1
    exact XR.forget (L2 := [some (.ref 1244), none, none]) ⟨rfl, trivial⟩ (kb_u_putList_99 L0 hf)
  · replace hf := xi_neg hf qc1
    refine XS.go (s_aloadn rfl rfl rfl) ?_
    refine XS.go (s_getie rfl xf0_44 (LY.lt L0 (by decide)) (LY.k1244 L0) (by decide) rfl rfl) ?_
    refine XS.go (s_aloadn rfl rfl rfl) ?_
    refine XS.go (s_getr rfl xf0_41 (LY.lt L0 (by decide)) (LY.k1244 L0) (by decide) rfl (LY.r1244_8 L0)) ?_
    refine XS.go (s_alene rfl (LY.lt L0 (by decide)) (LY.k1251 L0) (LY.n1251 L0) (by decide)) ?_
    refine r_icmp_ge (tgt := 99) rfl rfl (fun qc2 => ?_) (fun qc2 => ?_)
    · replace hf := xi_pos hf qc2
      exact XR.forget (L2 := [some (.ref 1244), none, none]) ⟨rfl, trivial⟩ (kb_u_putList_99 L0 hf)
    · replace hf := xi_neg hf qc2
      refine XS.go (s_aloadn rfl rfl rfl) ?_
      refine XS.go (s_getr rfl xf0_41 (LY.lt L0 (by decide)) (LY.k1244 L0) (by decide) rfl (LY.r1244_8 L0)) ?_
      refine XS.go (s_aloadn rfl rfl rfl) ?_
      refine XS.go (s_getie rfl xf0_44 (LY.lt L0 (by decide)) (LY.k1244 L0) (by decide) rfl rfl) ?_
      refine XS.go (s_aloadn rfl rfl rfl) ?_
      refine XS.go (s_getie rfl xf0_18 (LY.lt L0 (by decide)) (LY.k1244 L0) (by decide) rfl rfl) ?_
      refine XS.go (s_iast rfl (LY.lt L0 (by decide)) (LY.k1251 L0) (in_of (N := 300) (LY.n1251 L0) (by decide) qc1 qc2)) ?_
      refine XS.go (s_aloadn rfl rfl rfl) ?_
      refine XS.go (s_dup rfl rfl) ?_
      refine XS.go (s_getie rfl xf0_44 (LY.lt (by simp only [LY_si, LY_sj]; exact L0) (by decide)) (LY.k1244 (by simp only [LY_si, LY_sj]; exact L0)) (by decide) rfl (hi_hsi_na (by decide))) ?_
      refine XS.go (s_iconst (v := 1) rfl rfl) ?_
      refine XS.go (s_iadd rfl) ?_
      refine XS.go (s_puti rfl xf0_44 (LY.lt (by simp only [LY_si, LY_sj]; exact L0) (by decide)) (LY.k1244 (by simp only [LY_si, LY_sj]; exact L0)) (by decide) rfl (Or.inl rfl)) ?_
      exact XR.forget (L2 := [some (.ref 1244), none, none]) ⟨rfl, trivial⟩ (kb_u_putList_99 (by simp only [LY_si, LY_sj]; exact L0) hf)
def s_u_putList_14 (K14 : Int32 → Int32 → XH → Option (Int32 × XH)) (x1 : Int32) (x2 : Int32) (h : XH) : Option (Int32 × XH) := (if (hi h 1244 15) ≤ x2 then (b_u_putList_57 h) else (if (nI 34) ≤ x2 then (b_u_putList_57 h) else (if 0 ≤ x2 ∧ x2 < nI 34 then (Option.bind (f_b_putNumber 1245 (x1 + (2 * x2)) 2 (Int32.toInt64 (hi h 1254 (Int32.toNatClampNeg x2))) h) fun r6 => (K14 x1 (x2 + 1) r6.2)) else none)))
set_option maxRecDepth 20000 in
theorem ks_u_putList_14 {l : Launch} {G : XG} {d : Nat} {K14 : Int32 → Int32 → XH → Option (Int32 × XH)} {x1 : Int32} {x2 : Int32} {h : XH} {r : Int32 × XH} (hK14 : ∀ (x1 : Int32) (x2 : Int32) (h : XH), LY h → K14 x1 x2 h = some r → XR l G xEX0_putList (d + 2) (14, [some (.ref 1244), some (.int x1), some (.int x2)], [], h) (fun C => ∃ v, xRet xEX0_putList C v ∧ (C.2.2.2 = r.2 ∧ v = some (.int r.1)) ∧ LY r.2)) (L0 : LY h) (hf : s_u_putList_14 K14 x1 x2 h = some r) : XR l G xEX0_putList (d + 2) (14, [some (.ref 1244), some (.int x1), some (.int x2)], [], h) (fun C => ∃ v, xRet xEX0_putList C v ∧ (C.2.2.2 = r.2 ∧ v = some (.int r.1)) ∧ LY r.2) := by
  unfold s_u_putList_14 at hf
  refine XS.go (s_iloadn rfl rfl rfl) ?_
  refine XS.go (s_aloadn rfl rfl rfl) ?_
  refine XS.go (s_getie rfl xf0_63 (LY.lt L0 (by decide)) (LY.k1244 L0) (by decide) rfl rfl) ?_
  refine r_icmp_ge (tgt := 57) rfl rfl (fun qc3 => ?_) (fun qc3 => ?_)
  · replace hf := xi_pos hf qc3
    exact XR.forget (L2 := [some (.ref 1244), none, none]) ⟨rfl, trivial⟩ (kb_u_putList_57 L0 hf)
  · replace hf := xi_neg hf qc3
    refine XS.go (s_iloadn rfl rfl rfl) ?_
    refine XS.go (s_aloadn rfl rfl rfl) ?_
    refine XS.go (s_getr rfl xf0_60 (LY.lt L0 (by decide)) (LY.k1244 L0) (by decide) rfl (LY.r1244_14 L0)) ?_
    refine XS.go (s_alene rfl (LY.lt L0 (by decide)) (LY.k1254 L0) (LY.n1254 L0) (by decide)) ?_
    refine r_icmp_ge (tgt := 57) rfl rfl (fun qc4 => ?_) (fun qc4 => ?_)
    · replace hf := xi_pos hf qc4
      exact XR.forget (L2 := [some (.ref 1244), none, none]) ⟨rfl, trivial⟩ (kb_u_putList_57 L0 hf)
    · replace hf := xi_neg hf qc4
      refine XS.go (s_aloadn rfl rfl rfl) ?_
      refine XS.go (s_getr rfl xf0_12 (LY.lt L0 (by decide)) (LY.k1244 L0) (by decide) rfl (LY.r1244_0 L0)) ?_
      refine XS.go (s_iloadn rfl rfl rfl) ?_
      refine XS.go (s_iconst (v := 2) rfl rfl) ?_
      refine XS.go (s_iloadn rfl rfl rfl) ?_
      refine XS.go (s_imul rfl) ?_
      refine XS.go (s_iadd rfl) ?_
      refine XS.go (s_iconst (v := 2) rfl rfl) ?_
      refine XS.go (s_aloadn rfl rfl rfl) ?_
      refine XS.go (s_getr rfl xf0_60 (LY.lt L0 (by decide)) (LY.k1244 L0) (by decide) rfl (LY.r1244_14 L0)) ?_
      refine XS.go (s_iloadn rfl rfl rfl) ?_
      replace hf := xi_none hf
      obtain ⟨qk5, hf⟩ := hf
      refine XS.go (s_ialde rfl (LY.lt L0 (by decide)) (LY.k1254 L0) (inLit (LY.n1254 L0) qk5.1 qk5.2 (by decide)) rfl) ?_
      refine XS.go (s_i2l rfl) ?_
      replace hf := xb_some hf
      obtain ⟨r6, e7, hf⟩ := hf
      refine r_callv rfl xvX1_putNumber xm0_100 (kf_b_putNumber (d := d) L0 e7) (LY.lt L0 (by decide)) (LY.k1245 L0) (by decide) rfl rfl (dl (by decide)) (by decide) (Nat.le_of_ble_eq_true rfl) ?_
      rintro _ _ ⟨⟨rfl, rfl⟩, L8⟩
      refine XS.go (XS.lcl (L3 := [some (.ref 1244), some (.int x1), some (.int (x2 + 1))]) (s_inc rfl rfl (Nat.le_of_ble_eq_true rfl)) rfl) ?_
      refine XS.go (s_goto (tgt := 14) rfl rfl) ?_
      exact XR.forget (L2 := [some (.ref 1244), some (.int x1), some (.int (x2 + 1))]) ⟨rfl, ⟨rfl, ⟨rfl, trivial⟩⟩⟩ (hK14 x1 (x2 + 1) _ L8 hf)
def b_u_putList_14 : Nat → Int32 → Int32 → XH → Option (Int32 × XH)
  | 0, _, _, _ => none
  | n + 1, x1, x2, h => s_u_putList_14 (b_u_putList_14 n) x1 x2 h
theorem kb_u_putList_14 {l : Launch} {G : XG} {d : Nat} {n : Nat} {x1 : Int32} {x2 : Int32} {h : XH} {r : Int32 × XH} (L0 : LY h) (hf : b_u_putList_14 n x1 x2 h = some r) : XR l G xEX0_putList (d + 2) (14, [some (.ref 1244), some (.int x1), some (.int x2)], [], h) (fun C => ∃ v, xRet xEX0_putList C v ∧ (C.2.2.2 = r.2 ∧ v = some (.int r.1)) ∧ LY r.2) := by
  induction n generalizing x1 x2 h with
  | zero => cases hf
  | succ n ih => exact ks_u_putList_14 (fun x1 x2 h L0 hf => ih (h := h) (x1 := x1) (x2 := x2) L0 hf) L0 hf
def f_u_putList (h : XH) : Option (Int32 × XH) := (Option.bind (f_u_grow (2 * (hi h 1244 15)) 2 h) fun r9 => (b_u_putList_14 100000 r9.1 0 r9.2))
set_option maxRecDepth 20000 in
theorem kf_u_putList {l : Launch} {G : XG} {d : Nat} {h : XH} {r : Int32 × XH} (L0 : LY h) (hf : f_u_putList h = some r) : XC l G xEX0_putList (d + 2) [.ref 1244] h (fun v h2 => (h2 = r.2 ∧ v = some (.int r.1)) ∧ LY r.2) := by
  refine XC.virt xvX0_putList (Nat.le_of_ble_eq_true rfl) ?_
  unfold f_u_putList at hf
  refine XR.norm (L3 := [some (.ref 1244), none, none]) rfl ?_
  refine XS.go (s_aloadn rfl rfl rfl) ?_
  refine XS.go (s_iconst (v := 2) rfl rfl) ?_
  refine XS.go (s_aloadn rfl rfl rfl) ?_
  refine XS.go (s_getie rfl xf0_63 (LY.lt L0 (by decide)) (LY.k1244 L0) (by decide) rfl rfl) ?_
  refine XS.go (s_imul rfl) ?_
  refine XS.go (s_iconst (v := 2) rfl rfl) ?_
  replace hf := xb_some hf
  obtain ⟨r9, e10, hf⟩ := hf
  refine r_callv rfl xvX0_grow xm0_107 (kf_u_grow (d := d) L0 e10) (LY.lt L0 (by decide)) (LY.k1244 L0) (by decide) rfl rfl (dl (by decide)) (by decide) (Nat.le_of_ble_eq_true rfl) ?_
  rintro _ _ ⟨⟨rfl, rfl⟩, L11⟩
  refine XS.go (XS.lcl (L3 := [some (.ref 1244), some (.int r9.1), none]) (s_istoren rfl rfl (Nat.le_of_ble_eq_true rfl)) rfl) ?_
  refine XS.go (s_iconst (v := 0) rfl rfl) ?_
  refine XS.go (XS.lcl (L3 := [some (.ref 1244), some (.int r9.1), some (.int 0)]) (s_istoren rfl rfl (Nat.le_of_ble_eq_true rfl)) rfl) ?_
  exact XR.forget (L2 := [some (.ref 1244), some (.int r9.1), some (.int 0)]) ⟨rfl, ⟨rfl, ⟨rfl, trivial⟩⟩⟩ (kb_u_putList_14 L11 hf)
def s_b_number_26 (K26 : Nat → Int32 → Int64 → Int32 → XH → Option (Int64 × XH)) (x0 : Nat) (x1 : Int32) (x3 : Int64) (x5 : Int32) (h : XH) : Option (Int64 × XH) := (if x5 < x1 then (some (x3, h)) else (if x0 < hz h ∧ hk h x0 = 1 then (Option.bind (hr h x0 0) fun b3 => (if b3 < hz h ∧ hk h b3 = 102 then (if 0 ≤ x5 ∧ x5 < nI (hn h b3) ∧ (hn h b3) < 2 ^ 31 then (K26 x0 x1 ((x3 <<< ((Int32.toInt64 8) &&& 63)) ||| (Int32.toInt64 ((hi h b3 (Int32.toNatClampNeg x5)) &&& 255))) (x5 + (-1)) h) else none) else none)) else none))
set_option maxRecDepth 20000 in
theorem ks_b_number_26 {l : Launch} {G : XG} {d : Nat} {K26 : Nat → Int32 → Int64 → Int32 → XH → Option (Int64 × XH)} {x0 : Nat} {x1 : Int32} {x3 : Int64} {x5 : Int32} {h : XH} {r : Int64 × XH} (hK26 : ∀ (x0 : Nat) (x1 : Int32) (x3 : Int64) (x5 : Int32) (h : XH), LY h → K26 x0 x1 x3 x5 h = some r → XR l G xEX1_number d (26, [some (.ref x0), some (.int x1), none, some (.long x3), none, some (.int x5)], [], h) (fun C => ∃ v, xRet xEX1_number C v ∧ (C.2.2.2 = r.2 ∧ v = some (.long r.1)) ∧ LY r.2)) (L0 : LY h) (hf : s_b_number_26 K26 x0 x1 x3 x5 h = some r) : XR l G xEX1_number d (26, [some (.ref x0), some (.int x1), none, some (.long x3), none, some (.int x5)], [], h) (fun C => ∃ v, xRet xEX1_number C v ∧ (C.2.2.2 = r.2 ∧ v = some (.long r.1)) ∧ LY r.2) := by
  unfold s_b_number_26 at hf
  refine XS.go (s_iload rfl rfl) ?_
  refine XS.go (s_iloadn rfl rfl rfl) ?_
  refine r_icmp_lt (tgt := 56) rfl rfl (fun qc1 => ?_) (fun qc1 => ?_)
  · replace hf := xi_pos hf qc1
    refine XS.go (s_lloadn rfl rfl rfl) ?_
    cases hf
    exact XR.retl rfl rfl (fun hret => ⟨_, hret, ⟨rfl, rfl⟩, L0⟩)
  · replace hf := xi_neg hf qc1
    refine XS.go (s_lloadn rfl rfl rfl) ?_
    refine XS.go (s_bipush (v := 8) rfl rfl) ?_
    refine XS.go (s_lshl rfl) ?_
    refine XS.go (s_aloadn rfl rfl rfl) ?_
    replace hf := xi_none hf
    obtain ⟨qk2, hf⟩ := hf
    replace hf := xb_some hf
    obtain ⟨b3, qr4, hf⟩ := hf
    refine XS.go (s_getr rfl xf1_9 qk2.1 qk2.2 (by decide) rfl qr4) ?_
    refine XS.go (s_iload rfl rfl) ?_
    replace hf := xi_none hf
    obtain ⟨qk5, hf⟩ := hf
    replace hf := xi_none hf
    obtain ⟨qk6, hf⟩ := hf
    refine XS.go (s_balde rfl qk5.1 qk5.2 (inLit (N := hn h b3) rfl qk6.1 qk6.2.1 qk6.2.2) rfl) ?_
    refine XS.go (s_sipush (v := 255) rfl rfl) ?_
    refine XS.go (s_iand rfl) ?_
    refine XS.go (s_i2l rfl) ?_
    refine XS.go (s_lor rfl) ?_
    refine XS.go (XS.lcl (L3 := [some (.ref x0), some (.int x1), none, some (.long ((x3 <<< ((Int32.toInt64 8) &&& 63)) ||| (Int32.toInt64 ((hi h b3 (Int32.toNatClampNeg x5)) &&& 255)))), none, some (.int x5)]) (s_lstoren rfl rfl (Nat.le_of_ble_eq_true rfl)) rfl) ?_
    refine XS.go (XS.lcl (L3 := [some (.ref x0), some (.int x1), none, some (.long ((x3 <<< ((Int32.toInt64 8) &&& 63)) ||| (Int32.toInt64 ((hi h b3 (Int32.toNatClampNeg x5)) &&& 255)))), none, some (.int (x5 + (-1)))]) (s_dec rfl rfl (Nat.le_of_ble_eq_true rfl)) rfl) ?_
    refine XS.go (s_goto (tgt := 26) rfl rfl) ?_
    exact XR.forget (L2 := [some (.ref x0), some (.int x1), none, some (.long ((x3 <<< ((Int32.toInt64 8) &&& 63)) ||| (Int32.toInt64 ((hi h b3 (Int32.toNatClampNeg x5)) &&& 255)))), none, some (.int (x5 + (-1)))]) ⟨rfl, ⟨rfl, ⟨rfl, ⟨rfl, trivial⟩⟩⟩⟩ (hK26 x0 x1 ((x3 <<< ((Int32.toInt64 8) &&& 63)) ||| (Int32.toInt64 ((hi h b3 (Int32.toNatClampNeg x5)) &&& 255))) (x5 + (-1)) _ L0 hf)
def b_b_number_26 : Nat → Nat → Int32 → Int64 → Int32 → XH → Option (Int64 × XH)
  | 0, _, _, _, _, _ => none
  | n + 1, x0, x1, x3, x5, h => s_b_number_26 (b_b_number_26 n) x0 x1 x3 x5 h
theorem kb_b_number_26 {l : Launch} {G : XG} {d : Nat} {n : Nat} {x0 : Nat} {x1 : Int32} {x3 : Int64} {x5 : Int32} {h : XH} {r : Int64 × XH} (L0 : LY h) (hf : b_b_number_26 n x0 x1 x3 x5 h = some r) : XR l G xEX1_number d (26, [some (.ref x0), some (.int x1), none, some (.long x3), none, some (.int x5)], [], h) (fun C => ∃ v, xRet xEX1_number C v ∧ (C.2.2.2 = r.2 ∧ v = some (.long r.1)) ∧ LY r.2) := by
  induction n generalizing x0 x1 x3 x5 h with
  | zero => cases hf
  | succ n ih => exact ks_b_number_26 (fun x0 x1 x3 x5 h L0 hf => ih (h := h) (x0 := x0) (x1 := x1) (x3 := x3) (x5 := x5) L0 hf) L0 hf
def f_b_number (t : Nat) (a0 : Int32) (a1 : Int32) (h : XH) : Option (Int64 × XH) := (if a0 < 0 then (some ((0 : Int64), h)) else (if t < hz h ∧ hk h t = 1 then (Option.bind (hr h t 0) fun b9 => (if b9 < hz h ∧ hk h b9 = 102 then (if a0 ≤ ((nI (hn h b9)) - a1) then (b_b_number_26 100000 t a0 (0 : Int64) ((a0 + a1) - 1) h) else (some ((0 : Int64), h))) else none)) else none))
set_option maxRecDepth 20000 in
theorem kf_b_number {l : Launch} {G : XG} {d : Nat} {t : Nat} {a0 : Int32} {a1 : Int32} {h : XH} {r : Int64 × XH} (L0 : LY h) (hf : f_b_number t a0 a1 h = some r) : XC l G xEX1_number d [.ref t, .int a0, .int a1] h (fun v h2 => (h2 = r.2 ∧ v = some (.long r.1)) ∧ LY r.2) := by
  refine XC.virt xvX1_number (Nat.le_of_ble_eq_true rfl) ?_
  unfold f_b_number at hf
  refine XR.norm (L3 := [some (.ref t), some (.int a0), some (.int a1), none, none, none]) rfl ?_
  refine XS.go (s_iloadn rfl rfl rfl) ?_
  refine r_if_lt (tgt := 15) rfl rfl (fun qc7 => ?_) (fun qc7 => ?_)
  · replace hf := xi_pos hf qc7
    refine XS.go (s_lconst (v := 0) rfl rfl) ?_
    cases hf
    exact XR.retl rfl rfl (fun hret => ⟨_, hret, ⟨rfl, rfl⟩, L0⟩)
  · replace hf := xi_neg hf qc7
    refine XS.go (s_iloadn rfl rfl rfl) ?_
    refine XS.go (s_aloadn rfl rfl rfl) ?_
    replace hf := xi_none hf
    obtain ⟨qk8, hf⟩ := hf
    replace hf := xb_some hf
    obtain ⟨b9, qr10, hf⟩ := hf
    refine XS.go (s_getr rfl xf1_9 qk8.1 qk8.2 (by decide) rfl qr10) ?_
    replace hf := xi_none hf
    obtain ⟨qk11, hf⟩ := hf
    refine XS.go (s_alene (N := hn h b9) rfl qk11.1 qk11.2 rfl (by decide)) ?_
    refine XS.go (s_iloadn rfl rfl rfl) ?_
    refine XS.go (s_isub rfl) ?_
    refine r_icmp_le (tgt := 17) rfl rfl (fun qc12 => ?_) (fun qc12 => ?_)
    · replace hf := xi_pos hf qc12
      refine XS.go (s_lconst (v := 0) rfl rfl) ?_
      refine XS.go (XS.lcl (L3 := [some (.ref t), some (.int a0), some (.int a1), some (.long (0 : Int64)), none, none]) (s_lstoren rfl rfl (Nat.le_of_ble_eq_true rfl)) rfl) ?_
      refine XS.go (s_iloadn rfl rfl rfl) ?_
      refine XS.go (s_iloadn rfl rfl rfl) ?_
      refine XS.go (s_iadd rfl) ?_
      refine XS.go (s_iconst (v := 1) rfl rfl) ?_
      refine XS.go (s_isub rfl) ?_
      refine XS.go (XS.lcl (L3 := [some (.ref t), some (.int a0), some (.int a1), some (.long (0 : Int64)), none, some (.int ((a0 + a1) - 1))]) (s_istore rfl (Nat.le_of_ble_eq_true rfl)) rfl) ?_
      exact XR.forget (L2 := [some (.ref t), some (.int a0), none, some (.long (0 : Int64)), none, some (.int ((a0 + a1) - 1))]) ⟨rfl, ⟨rfl, ⟨rfl, ⟨rfl, trivial⟩⟩⟩⟩ (kb_b_number_26 L0 hf)
    · replace hf := xi_neg hf qc12
      refine XS.go (s_lconst (v := 0) rfl rfl) ?_
      cases hf
      exact XR.retl rfl rfl (fun hret => ⟨_, hret, ⟨rfl, rfl⟩, L0⟩)
def s_u_isPreparedList_2 (K2 : Int32 → Int32 → XH → Option (Int32 × XH)) (x1 : Int32) (x2 : Int32) (h : XH) : Option (Int32 × XH) := (if (hi h 1244 15) ≤ x2 then (some (1, h)) else (if (nI 34) ≤ x2 then (some (1, h)) else (Option.bind (f_b_number 1245 (x1 + (2 * x2)) 2 h) fun r3 => (if 0 ≤ x2 ∧ x2 < nI 34 then (if (lg_cmp r3.1 (Int32.toInt64 (hi r3.2 1254 (Int32.toNatClampNeg x2)))) = 0 then (K2 x1 (x2 + 1) r3.2) else (some (0, r3.2))) else none))))
set_option maxRecDepth 20000 in
theorem ks_u_isPreparedList_2 {l : Launch} {G : XG} {d : Nat} {K2 : Int32 → Int32 → XH → Option (Int32 × XH)} {x1 : Int32} {x2 : Int32} {h : XH} {r : Int32 × XH} (hK2 : ∀ (x1 : Int32) (x2 : Int32) (h : XH), LY h → K2 x1 x2 h = some r → XR l G xEX0_isPreparedList (d + 1) (2, [some (.ref 1244), some (.int x1), some (.int x2)], [], h) (fun C => ∃ v, xRet xEX0_isPreparedList C v ∧ (C.2.2.2 = r.2 ∧ v = some (.int r.1)) ∧ LY r.2)) (L0 : LY h) (hf : s_u_isPreparedList_2 K2 x1 x2 h = some r) : XR l G xEX0_isPreparedList (d + 1) (2, [some (.ref 1244), some (.int x1), some (.int x2)], [], h) (fun C => ∃ v, xRet xEX0_isPreparedList C v ∧ (C.2.2.2 = r.2 ∧ v = some (.int r.1)) ∧ LY r.2) := by
  unfold s_u_isPreparedList_2 at hf
  refine XS.go (s_iloadn rfl rfl rfl) ?_
  refine XS.go (s_aloadn rfl rfl rfl) ?_
  refine XS.go (s_getie rfl xf0_63 (LY.lt L0 (by decide)) (LY.k1244 L0) (by decide) rfl rfl) ?_
  refine r_icmp_ge (tgt := 51) rfl rfl (fun qc1 => ?_) (fun qc1 => ?_)
  · replace hf := xi_pos hf qc1
    refine XS.go (s_iconst (v := 1) rfl rfl) ?_
    cases hf
    exact XR.retz rfl rfl (by decide) (fun hret => ⟨_, hret, ⟨rfl, rfl⟩, L0⟩)
  · replace hf := xi_neg hf qc1
    refine XS.go (s_iloadn rfl rfl rfl) ?_
    refine XS.go (s_aloadn rfl rfl rfl) ?_
    refine XS.go (s_getr rfl xf0_60 (LY.lt L0 (by decide)) (LY.k1244 L0) (by decide) rfl (LY.r1244_14 L0)) ?_
    refine XS.go (s_alene rfl (LY.lt L0 (by decide)) (LY.k1254 L0) (LY.n1254 L0) (by decide)) ?_
    refine r_icmp_ge (tgt := 51) rfl rfl (fun qc2 => ?_) (fun qc2 => ?_)
    · replace hf := xi_pos hf qc2
      refine XS.go (s_iconst (v := 1) rfl rfl) ?_
      cases hf
      exact XR.retz rfl rfl (by decide) (fun hret => ⟨_, hret, ⟨rfl, rfl⟩, L0⟩)
    · replace hf := xi_neg hf qc2
      refine XS.go (s_aloadn rfl rfl rfl) ?_
      refine XS.go (s_getr rfl xf0_12 (LY.lt L0 (by decide)) (LY.k1244 L0) (by decide) rfl (LY.r1244_0 L0)) ?_
      refine XS.go (s_iloadn rfl rfl rfl) ?_
      refine XS.go (s_iconst (v := 2) rfl rfl) ?_
      refine XS.go (s_iloadn rfl rfl rfl) ?_
      refine XS.go (s_imul rfl) ?_
      refine XS.go (s_iadd rfl) ?_
      refine XS.go (s_iconst (v := 2) rfl rfl) ?_
      replace hf := xb_some hf
      obtain ⟨r3, e4, hf⟩ := hf
      refine r_callv rfl xvX1_number xm0_196 (kf_b_number (d := d) L0 e4) (LY.lt L0 (by decide)) (LY.k1245 L0) (by decide) rfl rfl (dl0 (by decide)) (by decide) (Nat.le_of_ble_eq_true rfl) ?_
      rintro _ _ ⟨⟨rfl, rfl⟩, L5⟩
      refine XS.go (s_aloadn rfl rfl rfl) ?_
      refine XS.go (s_getr rfl xf0_60 (LY.lt L5 (by decide)) (LY.k1244 L5) (by decide) rfl (LY.r1244_14 L5)) ?_
      refine XS.go (s_iloadn rfl rfl rfl) ?_
      replace hf := xi_none hf
      obtain ⟨qk6, hf⟩ := hf
      refine XS.go (s_ialde rfl (LY.lt L5 (by decide)) (LY.k1254 L5) (inLit (LY.n1254 L5) qk6.1 qk6.2 (by decide)) rfl) ?_
      refine XS.go (s_i2l rfl) ?_
      refine XS.go (s_lcmp rfl) ?_
      refine r_if_eq (tgt := 45) rfl rfl (fun qc7 => ?_) (fun qc7 => ?_)
      · replace hf := xi_pos hf qc7
        refine XS.go (XS.lcl (L3 := [some (.ref 1244), some (.int x1), some (.int (x2 + 1))]) (s_inc rfl rfl (Nat.le_of_ble_eq_true rfl)) rfl) ?_
        refine XS.go (s_goto (tgt := 2) rfl rfl) ?_
        exact XR.forget (L2 := [some (.ref 1244), some (.int x1), some (.int (x2 + 1))]) ⟨rfl, ⟨rfl, ⟨rfl, trivial⟩⟩⟩ (hK2 x1 (x2 + 1) _ L5 hf)
      · replace hf := xi_neg hf qc7
        refine XS.go (s_iconst (v := 0) rfl rfl) ?_
        cases hf
        exact XR.retz rfl rfl (by decide) (fun hret => ⟨_, hret, ⟨rfl, rfl⟩, L5⟩)
def b_u_isPreparedList_2 : Nat → Int32 → Int32 → XH → Option (Int32 × XH)
  | 0, _, _, _ => none
  | n + 1, x1, x2, h => s_u_isPreparedList_2 (b_u_isPreparedList_2 n) x1 x2 h
theorem kb_u_isPreparedList_2 {l : Launch} {G : XG} {d : Nat} {n : Nat} {x1 : Int32} {x2 : Int32} {h : XH} {r : Int32 × XH} (L0 : LY h) (hf : b_u_isPreparedList_2 n x1 x2 h = some r) : XR l G xEX0_isPreparedList (d + 1) (2, [some (.ref 1244), some (.int x1), some (.int x2)], [], h) (fun C => ∃ v, xRet xEX0_isPreparedList C v ∧ (C.2.2.2 = r.2 ∧ v = some (.int r.1)) ∧ LY r.2) := by
  induction n generalizing x1 x2 h with
  | zero => cases hf
  | succ n ih => exact ks_u_isPreparedList_2 (fun x1 x2 h L0 hf => ih (h := h) (x1 := x1) (x2 := x2) L0 hf) L0 hf
def f_u_isPreparedList (a0 : Int32) (h : XH) : Option (Int32 × XH) := (b_u_isPreparedList_2 100000 a0 0 h)
set_option maxRecDepth 20000 in
theorem kf_u_isPreparedList {l : Launch} {G : XG} {d : Nat} {a0 : Int32} {h : XH} {r : Int32 × XH} (L0 : LY h) (hf : f_u_isPreparedList a0 h = some r) : XC l G xEX0_isPreparedList (d + 1) [.ref 1244, .int a0] h (fun v h2 => (h2 = r.2 ∧ v = some (.int r.1)) ∧ LY r.2) := by
  refine XC.virt xvX0_isPreparedList (Nat.le_of_ble_eq_true rfl) ?_
  unfold f_u_isPreparedList at hf
  refine XR.norm (L3 := [some (.ref 1244), some (.int a0), none]) rfl ?_
  refine XS.go (s_iconst (v := 0) rfl rfl) ?_
  refine XS.go (XS.lcl (L3 := [some (.ref 1244), some (.int a0), some (.int 0)]) (s_istoren rfl rfl (Nat.le_of_ble_eq_true rfl)) rfl) ?_
  exact XR.forget (L2 := [some (.ref 1244), some (.int a0), some (.int 0)]) ⟨rfl, ⟨rfl, ⟨rfl, trivial⟩⟩⟩ (kb_u_isPreparedList_2 L0 hf)
def s_u_startOfEqualList_2 (K2 : Int32 → XH → Option (Int32 × XH)) (x1 : Int32) (h : XH) : Option (Int32 × XH) := (if (hi h 1244 9) ≤ x1 then (some ((-1), h)) else (if (nI 300) ≤ x1 then (some ((-1), h)) else (if 0 ≤ x1 ∧ x1 < nI 300 then (Option.bind (f_u_isPreparedList (4000 - (hi h 1251 (Int32.toNatClampNeg x1))) h) fun r4 => (if r4.1 = 0 then (K2 (x1 + 1) r4.2) else (if 0 ≤ x1 ∧ x1 < nI 300 then (some ((hi r4.2 1251 (Int32.toNatClampNeg x1)), r4.2)) else none))) else none)))
set_option maxRecDepth 20000 in
theorem ks_u_startOfEqualList_2 {l : Launch} {G : XG} {d : Nat} {K2 : Int32 → XH → Option (Int32 × XH)} {x1 : Int32} {h : XH} {r : Int32 × XH} (hK2 : ∀ (x1 : Int32) (h : XH), LY h → K2 x1 h = some r → XR l G xEX0_startOfEqualList (d + 2) (2, [some (.ref 1244), some (.int x1)], [], h) (fun C => ∃ v, xRet xEX0_startOfEqualList C v ∧ (C.2.2.2 = r.2 ∧ v = some (.int r.1)) ∧ LY r.2)) (L0 : LY h) (hf : s_u_startOfEqualList_2 K2 x1 h = some r) : XR l G xEX0_startOfEqualList (d + 2) (2, [some (.ref 1244), some (.int x1)], [], h) (fun C => ∃ v, xRet xEX0_startOfEqualList C v ∧ (C.2.2.2 = r.2 ∧ v = some (.int r.1)) ∧ LY r.2) := by
  unfold s_u_startOfEqualList_2 at hf
  refine XS.go (s_iloadn rfl rfl rfl) ?_
  refine XS.go (s_aloadn rfl rfl rfl) ?_
  refine XS.go (s_getie rfl xf0_44 (LY.lt L0 (by decide)) (LY.k1244 L0) (by decide) rfl rfl) ?_
  refine r_icmp_ge (tgt := 49) rfl rfl (fun qc1 => ?_) (fun qc1 => ?_)
  · replace hf := xi_pos hf qc1
    refine XS.go (s_iconst (v := (-1)) rfl rfl) ?_
    cases hf
    exact XR.reti rfl rfl (fun hret => ⟨_, hret, ⟨rfl, rfl⟩, L0⟩)
  · replace hf := xi_neg hf qc1
    refine XS.go (s_iloadn rfl rfl rfl) ?_
    refine XS.go (s_aloadn rfl rfl rfl) ?_
    refine XS.go (s_getr rfl xf0_41 (LY.lt L0 (by decide)) (LY.k1244 L0) (by decide) rfl (LY.r1244_8 L0)) ?_
    refine XS.go (s_alene rfl (LY.lt L0 (by decide)) (LY.k1251 L0) (LY.n1251 L0) (by decide)) ?_
    refine r_icmp_ge (tgt := 49) rfl rfl (fun qc2 => ?_) (fun qc2 => ?_)
    · replace hf := xi_pos hf qc2
      refine XS.go (s_iconst (v := (-1)) rfl rfl) ?_
      cases hf
      exact XR.reti rfl rfl (fun hret => ⟨_, hret, ⟨rfl, rfl⟩, L0⟩)
    · replace hf := xi_neg hf qc2
      refine XS.go (s_aloadn rfl rfl rfl) ?_
      refine XS.go (s_sipush (v := 4000) rfl rfl) ?_
      refine XS.go (s_aloadn rfl rfl rfl) ?_
      refine XS.go (s_getr rfl xf0_41 (LY.lt L0 (by decide)) (LY.k1244 L0) (by decide) rfl (LY.r1244_8 L0)) ?_
      refine XS.go (s_iloadn rfl rfl rfl) ?_
      replace hf := xi_none hf
      obtain ⟨qk3, hf⟩ := hf
      refine XS.go (s_ialde rfl (LY.lt L0 (by decide)) (LY.k1251 L0) (inLit (LY.n1251 L0) qk3.1 qk3.2 (by decide)) rfl) ?_
      refine XS.go (s_isub rfl) ?_
      replace hf := xb_some hf
      obtain ⟨r4, e5, hf⟩ := hf
      refine r_callv rfl xvX0_isPreparedList xm0_193 (kf_u_isPreparedList (d := d) L0 e5) (LY.lt L0 (by decide)) (LY.k1244 L0) (by decide) rfl rfl (dl (by decide)) (by decide) (Nat.le_of_ble_eq_true rfl) ?_
      rintro _ _ ⟨⟨rfl, rfl⟩, L6⟩
      refine r_if_eq (tgt := 43) rfl rfl (fun qc7 => ?_) (fun qc7 => ?_)
      · replace hf := xi_pos hf qc7
        refine XS.go (XS.lcl (L3 := [some (.ref 1244), some (.int (x1 + 1))]) (s_inc rfl rfl (Nat.le_of_ble_eq_true rfl)) rfl) ?_
        refine XS.go (s_goto (tgt := 2) rfl rfl) ?_
        exact XR.forget (L2 := [some (.ref 1244), some (.int (x1 + 1))]) ⟨rfl, ⟨rfl, trivial⟩⟩ (hK2 (x1 + 1) _ L6 hf)
      · replace hf := xi_neg hf qc7
        refine XS.go (s_aloadn rfl rfl rfl) ?_
        refine XS.go (s_getr rfl xf0_41 (LY.lt L6 (by decide)) (LY.k1244 L6) (by decide) rfl (LY.r1244_8 L6)) ?_
        refine XS.go (s_iloadn rfl rfl rfl) ?_
        replace hf := xi_none hf
        obtain ⟨qk8, hf⟩ := hf
        refine XS.go (s_ialde rfl (LY.lt L6 (by decide)) (LY.k1251 L6) (inLit (LY.n1251 L6) qk8.1 qk8.2 (by decide)) rfl) ?_
        cases hf
        exact XR.reti rfl rfl (fun hret => ⟨_, hret, ⟨rfl, rfl⟩, L6⟩)
def b_u_startOfEqualList_2 : Nat → Int32 → XH → Option (Int32 × XH)
  | 0, _, _ => none
  | n + 1, x1, h => s_u_startOfEqualList_2 (b_u_startOfEqualList_2 n) x1 h
theorem kb_u_startOfEqualList_2 {l : Launch} {G : XG} {d : Nat} {n : Nat} {x1 : Int32} {h : XH} {r : Int32 × XH} (L0 : LY h) (hf : b_u_startOfEqualList_2 n x1 h = some r) : XR l G xEX0_startOfEqualList (d + 2) (2, [some (.ref 1244), some (.int x1)], [], h) (fun C => ∃ v, xRet xEX0_startOfEqualList C v ∧ (C.2.2.2 = r.2 ∧ v = some (.int r.1)) ∧ LY r.2) := by
  induction n generalizing x1 h with
  | zero => cases hf
  | succ n ih => exact ks_u_startOfEqualList_2 (fun x1 h L0 hf => ih (h := h) (x1 := x1) L0 hf) L0 hf
def f_u_startOfEqualList (h : XH) : Option (Int32 × XH) := (b_u_startOfEqualList_2 100000 0 h)
set_option maxRecDepth 20000 in
theorem kf_u_startOfEqualList {l : Launch} {G : XG} {d : Nat} {h : XH} {r : Int32 × XH} (L0 : LY h) (hf : f_u_startOfEqualList h = some r) : XC l G xEX0_startOfEqualList (d + 2) [.ref 1244] h (fun v h2 => (h2 = r.2 ∧ v = some (.int r.1)) ∧ LY r.2) := by
  refine XC.virt xvX0_startOfEqualList (Nat.le_of_ble_eq_true rfl) ?_
  unfold f_u_startOfEqualList at hf
  refine XR.norm (L3 := [some (.ref 1244), none]) rfl ?_
  refine XS.go (s_iconst (v := 0) rfl rfl) ?_
  refine XS.go (XS.lcl (L3 := [some (.ref 1244), some (.int 0)]) (s_istoren rfl rfl (Nat.le_of_ble_eq_true rfl)) rfl) ?_
  exact XR.forget (L2 := [some (.ref 1244), some (.int 0)]) ⟨rfl, ⟨rfl, trivial⟩⟩ (kb_u_startOfEqualList_2 L0 hf)
def b_u_close_79 (x1 : Int32) (x2 : Int32) (x4 : Int32) (x5 : Int32) (h : XH) : Option (Int32 × XH) := (Option.bind (f_b_putNumber 1245 x4 4 (Int32.toInt64 (x2 - x1)) h) fun r1 => (some (x5, (hsi r1.2 1244 10 (-1)))))
set_option maxRecDepth 20000 in
theorem kb_u_close_79 {l : Launch} {G : XG} {d : Nat} {x1 : Int32} {x2 : Int32} {x4 : Int32} {x5 : Int32} {h : XH} {r : Int32 × XH} (L0 : LY h) (hf : b_u_close_79 x1 x2 x4 x5 h = some r) : XR l G xEX0_close (d + 3) (79, [some (.ref 1244), some (.int x1), some (.int x2), none, some (.int x4), some (.int x5)], [], h) (fun C => ∃ v, xRet xEX0_close C v ∧ (C.2.2.2 = r.2 ∧ v = some (.int r.1)) ∧ LY r.2) := by
  unfold b_u_close_79 at hf
  refine XS.go (s_aloadn rfl rfl rfl) ?_
  refine XS.go (s_getr rfl xf0_12 (LY.lt L0 (by decide)) (LY.k1244 L0) (by decide) rfl (LY.r1244_0 L0)) ?_
  refine XS.go (s_iload rfl rfl) ?_
  refine XS.go (s_iconst (v := 4) rfl rfl) ?_
  refine XS.go (s_iloadn rfl rfl rfl) ?_
  refine XS.go (s_iloadn rfl rfl rfl) ?_
  refine XS.go (s_isub rfl) ?_
  refine XS.go (s_i2l rfl) ?_
  replace hf := xb_some hf
  obtain ⟨r1, e2, hf⟩ := hf
  refine r_callv rfl xvX1_putNumber xm0_100 (kf_b_putNumber (d := d) L0 e2) (LY.lt L0 (by decide)) (LY.k1245 L0) (by decide) rfl rfl (dl (by decide)) (by decide) (Nat.le_of_ble_eq_true rfl) ?_
  rintro _ _ ⟨⟨rfl, rfl⟩, L3⟩
  refine XS.go (s_aloadn rfl rfl rfl) ?_
  refine XS.go (s_iconst (v := (-1)) rfl rfl) ?_
  refine XS.go (s_puti rfl xf0_47 (LY.lt L3 (by decide)) (LY.k1244 L3) (by decide) rfl (Or.inl rfl)) ?_
  refine XS.go (s_iload rfl rfl) ?_
  cases hf
  exact XR.reti rfl rfl (fun hret => ⟨_, hret, ⟨rfl, rfl⟩, (by simp only [LY_si, LY_sj]; exact L3)⟩)
def b_u_close_38 (x1 : Int32) (x2 : Int32) (y0 : Int32) (h : XH) : Option (Int32 × XH) := (Option.bind (f_u_hasRoomForThing y0 h) fun r4 => (if ¬ r4.1 = 0 then (Option.bind (f_u_grow 4 4 r4.2) fun r8 => (Option.bind (f_u_addThing 3 (hi r8.2 1244 10) (-1) r8.2) fun r11 => (if ¬ x2 = (-1) then (b_u_close_79 x1 x2 r8.1 r11.1 r11.2) else (Option.bind (f_u_putList r11.2) fun r15 => (b_u_close_79 x1 r15.1 r8.1 r11.1 r15.2))))) else (some ((-1), r4.2))))
set_option maxRecDepth 20000 in
theorem kb_u_close_38 {l : Launch} {G : XG} {d : Nat} {x1 : Int32} {x2 : Int32} {y0 : Int32} {h : XH} {r : Int32 × XH} (L0 : LY h) (hf : b_u_close_38 x1 x2 y0 h = some r) : XR l G xEX0_close (d + 3) (38, [some (.ref 1244), some (.int x1), some (.int x2), none, none, none], [(.int y0)], h) (fun C => ∃ v, xRet xEX0_close C v ∧ (C.2.2.2 = r.2 ∧ v = some (.int r.1)) ∧ LY r.2) := by
  unfold b_u_close_38 at hf
  refine XS.go (XS.lcl (L3 := [some (.ref 1244), some (.int x1), some (.int x2), some (.int y0), none, none]) (s_istoren rfl rfl (Nat.le_of_ble_eq_true rfl)) rfl) ?_
  refine XS.go (s_aloadn rfl rfl rfl) ?_
  refine XS.go (s_iloadn rfl rfl rfl) ?_
  replace hf := xb_some hf
  obtain ⟨r4, e5, hf⟩ := hf
  refine r_callv rfl xvX0_hasRoomForThing xm0_104 (kf_u_hasRoomForThing (d := d) L0 e5) (LY.lt L0 (by decide)) (LY.k1244 L0) (by decide) rfl rfl (dl0 (by decide)) (by decide) (Nat.le_of_ble_eq_true rfl) ?_
  rintro _ _ ⟨⟨rfl, rfl⟩, L6⟩
  refine r_if_ne (tgt := 49) rfl rfl (fun qc7 => ?_) (fun qc7 => ?_)
  · replace hf := xi_pos hf qc7
    refine XS.go (s_aloadn rfl rfl rfl) ?_
    refine XS.go (s_iconst (v := 4) rfl rfl) ?_
    refine XS.go (s_iconst (v := 4) rfl rfl) ?_
    replace hf := xb_some hf
    obtain ⟨r8, e9, hf⟩ := hf
    refine r_callv rfl xvX0_grow xm0_107 (kf_u_grow (d := d) L6 e9) (LY.lt L6 (by decide)) (LY.k1244 L6) (by decide) rfl rfl (dl (by decide)) (by decide) (Nat.le_of_ble_eq_true rfl) ?_
    rintro _ _ ⟨⟨rfl, rfl⟩, L10⟩
    refine XS.go (XS.lcl (L3 := [some (.ref 1244), some (.int x1), some (.int x2), some (.int y0), some (.int r8.1), none]) (s_istore rfl (Nat.le_of_ble_eq_true rfl)) rfl) ?_
    refine XS.go (s_aloadn rfl rfl rfl) ?_
    refine XS.go (s_iconst (v := 3) rfl rfl) ?_
    refine XS.go (s_aloadn rfl rfl rfl) ?_
    refine XS.go (s_getie rfl xf0_47 (LY.lt L10 (by decide)) (LY.k1244 L10) (by decide) rfl rfl) ?_
    refine XS.go (s_iconst (v := (-1)) rfl rfl) ?_
    replace hf := xb_some hf
    obtain ⟨r11, e12, hf⟩ := hf
    refine r_callv rfl xvX0_addThing xm0_114 (kf_u_addThing (d := d) L10 e12) (LY.lt L10 (by decide)) (LY.k1244 L10) (by decide) rfl rfl (dl0 (by decide)) (by decide) (Nat.le_of_ble_eq_true rfl) ?_
    rintro _ _ ⟨⟨rfl, rfl⟩, L13⟩
    refine XS.go (XS.lcl (L3 := [some (.ref 1244), some (.int x1), some (.int x2), some (.int y0), some (.int r8.1), some (.int r11.1)]) (s_istore rfl (Nat.le_of_ble_eq_true rfl)) rfl) ?_
    refine XS.go (s_iloadn rfl rfl rfl) ?_
    refine XS.go (s_iconst (v := (-1)) rfl rfl) ?_
    refine r_icmp_ne (tgt := 79) rfl rfl (fun qc14 => ?_) (fun qc14 => ?_)
    · replace hf := xi_pos hf qc14
      exact XR.forget (L2 := [some (.ref 1244), some (.int x1), some (.int x2), none, some (.int r8.1), some (.int r11.1)]) ⟨rfl, ⟨rfl, ⟨rfl, ⟨rfl, ⟨rfl, trivial⟩⟩⟩⟩⟩ (kb_u_close_79 L13 hf)
    · replace hf := xi_neg hf qc14
      refine XS.go (s_aloadn rfl rfl rfl) ?_
      replace hf := xb_some hf
      obtain ⟨r15, e16, hf⟩ := hf
      refine r_callv rfl xvX0_putList xm0_190 (kf_u_putList (d := d) L13 e16) (LY.lt L13 (by decide)) (LY.k1244 L13) (by decide) rfl rfl (dl (by decide)) (by decide) (Nat.le_of_ble_eq_true rfl) ?_
      rintro _ _ ⟨⟨rfl, rfl⟩, L17⟩
      refine XS.go (XS.lcl (L3 := [some (.ref 1244), some (.int x1), some (.int r15.1), some (.int y0), some (.int r8.1), some (.int r11.1)]) (s_istoren rfl rfl (Nat.le_of_ble_eq_true rfl)) rfl) ?_
      exact XR.forget (L2 := [some (.ref 1244), some (.int x1), some (.int r15.1), none, some (.int r8.1), some (.int r11.1)]) ⟨rfl, ⟨rfl, ⟨rfl, ⟨rfl, ⟨rfl, trivial⟩⟩⟩⟩⟩ (kb_u_close_79 L17 hf)
  · replace hf := xi_neg hf qc7
    refine XS.go (s_iconst (v := (-1)) rfl rfl) ?_
    cases hf
    exact XR.reti rfl rfl (fun hret => ⟨_, hret, ⟨rfl, rfl⟩, L6⟩)
def f_u_close (h : XH) : Option (Int32 × XH) := (Option.bind (f_t_roundUp ((hi h 1244 1) + 4) 4 h) fun r18 => (Option.bind (f_u_prepareList r18.1 r18.2) fun r21 => (Option.bind (f_u_startOfEqualList r21.2) fun r24 => (if ¬ r24.1 = (-1) then (b_u_close_38 r18.1 r24.1 r18.1 r24.2) else (b_u_close_38 r18.1 r24.1 (r18.1 + (2 * (hi r24.2 1244 15))) r24.2)))))
set_option maxRecDepth 20000 in
theorem kf_u_close {l : Launch} {G : XG} {d : Nat} {h : XH} {r : Int32 × XH} (L0 : LY h) (hf : f_u_close h = some r) : XC l G xEX0_close (d + 3) [.ref 1244] h (fun v h2 => (h2 = r.2 ∧ v = some (.int r.1)) ∧ LY r.2) := by
  refine XC.virt xvX0_close (Nat.le_of_ble_eq_true rfl) ?_
  unfold f_u_close at hf
  refine XR.norm (L3 := [some (.ref 1244), none, none, none, none, none]) rfl ?_
  refine XS.go (s_aloadn rfl rfl rfl) ?_
  refine XS.go (s_getie rfl xf0_18 (LY.lt L0 (by decide)) (LY.k1244 L0) (by decide) rfl rfl) ?_
  refine XS.go (s_iconst (v := 4) rfl rfl) ?_
  refine XS.go (s_iadd rfl) ?_
  refine XS.go (s_iconst (v := 4) rfl rfl) ?_
  replace hf := xb_some hf
  obtain ⟨r18, e19, hf⟩ := hf
  refine r_callsn rfl xsX11_roundUp (List.mem_of_getElem? (i := 15) rfl) (kf_t_roundUp (d := d) L0 e19) rfl rfl (dl0 (by decide)) (by decide) (Nat.le_of_ble_eq_true rfl) ?_
  rintro _ _ ⟨⟨rfl, rfl⟩, L20⟩
  refine XS.go (XS.lcl (L3 := [some (.ref 1244), some (.int r18.1), none, none, none, none]) (s_istoren rfl rfl (Nat.le_of_ble_eq_true rfl)) rfl) ?_
  refine XS.go (s_aloadn rfl rfl rfl) ?_
  refine XS.go (s_iloadn rfl rfl rfl) ?_
  replace hf := xb_some hf
  obtain ⟨r21, e22, hf⟩ := hf
  refine r_callv rfl xvX0_prepareList xm0_183 (kf_u_prepareList (d := d) L20 e22) (LY.lt L20 (by decide)) (LY.k1244 L20) (by decide) rfl rfl (dl0 (by decide)) (by decide) (Nat.le_of_ble_eq_true rfl) ?_
  rintro _ _ ⟨⟨rfl, rfl⟩, L23⟩
  refine XS.go (s_aloadn rfl rfl rfl) ?_
  replace hf := xb_some hf
  obtain ⟨r24, e25, hf⟩ := hf
  refine r_callv rfl xvX0_startOfEqualList xm0_186 (kf_u_startOfEqualList (d := d) L23 e25) (LY.lt L23 (by decide)) (LY.k1244 L23) (by decide) rfl rfl (dl (by decide)) (by decide) (Nat.le_of_ble_eq_true rfl) ?_
  rintro _ _ ⟨⟨rfl, rfl⟩, L26⟩
  refine XS.go (XS.lcl (L3 := [some (.ref 1244), some (.int r18.1), some (.int r24.1), none, none, none]) (s_istoren rfl rfl (Nat.le_of_ble_eq_true rfl)) rfl) ?_
  refine XS.go (s_iloadn rfl rfl rfl) ?_
  refine XS.go (s_iconst (v := (-1)) rfl rfl) ?_
  refine r_icmp_ne (tgt := 37) rfl rfl (fun qc27 => ?_) (fun qc27 => ?_)
  · replace hf := xi_pos hf qc27
    refine XS.go (s_iloadn rfl rfl rfl) ?_
    exact XR.forget (L2 := [some (.ref 1244), some (.int r18.1), some (.int r24.1), none, none, none]) ⟨rfl, ⟨rfl, ⟨rfl, trivial⟩⟩⟩ (kb_u_close_38 L26 hf)
  · replace hf := xi_neg hf qc27
    refine XS.go (s_iloadn rfl rfl rfl) ?_
    refine XS.go (s_iconst (v := 2) rfl rfl) ?_
    refine XS.go (s_aloadn rfl rfl rfl) ?_
    refine XS.go (s_getie rfl xf0_63 (LY.lt L26 (by decide)) (LY.k1244 L26) (by decide) rfl rfl) ?_
    refine XS.go (s_imul rfl) ?_
    refine XS.go (s_iadd rfl) ?_
    refine XS.go (s_goto (tgt := 38) rfl rfl) ?_
    exact XR.forget (L2 := [some (.ref 1244), some (.int r18.1), some (.int r24.1), none, none, none]) ⟨rfl, ⟨rfl, ⟨rfl, trivial⟩⟩⟩ (kb_u_close_38 L26 hf)
def f_u_moveTo (a0 : Nat) (a1 : Int32) (h : XH) : Option (Int32 × XH) := (Option.bind (f_t_roundUp ((hi h 1244 1) + 4) (hi h 1244 2) h) fun r1 => (if r1.1 ≤ 4000 then (Option.bind (f_u_grow 4 (hi r1.2 1244 2) r1.2) fun r5 => (Option.bind (f_u_putReference r5.1 (Int32.toInt64 a1) r5.2) fun r8 => (if a0 < hz r8.2 ∧ hk r8.2 a0 = 1 then (Option.bind (f_b_copy a0 1245 (4000 - (hi r8.2 1244 1)) 0 (hi r8.2 1244 1) r8.2) fun r12 => (if a0 < hz r12.2 ∧ hk r12.2 a0 = 1 then (Option.bind (f_u_empty (hsi r12.2 a0 1 (hi r12.2 1244 1))) fun r16 => (some (1, r16.2))) else none)) else none))) else (some (0, r1.2))))
set_option maxRecDepth 20000 in
theorem kf_u_moveTo {l : Launch} {G : XG} {d : Nat} {a0 : Nat} {a1 : Int32} {h : XH} {r : Int32 × XH} (L0 : LY h) (hf : f_u_moveTo a0 a1 h = some r) : XC l G xEX0_moveTo (d + 3) [.ref 1244, .ref a0, .int a1] h (fun v h2 => (h2 = r.2 ∧ v = some (.int r.1)) ∧ LY r.2) := by
  refine XC.virt xvX0_moveTo (Nat.le_of_ble_eq_true rfl) ?_
  unfold f_u_moveTo at hf
  refine XR.norm (L3 := [some (.ref 1244), some (.ref a0), some (.int a1)]) rfl ?_
  refine XS.go (s_aloadn rfl rfl rfl) ?_
  refine XS.go (s_getie rfl xf0_18 (LY.lt L0 (by decide)) (LY.k1244 L0) (by decide) rfl rfl) ?_
  refine XS.go (s_iconst (v := 4) rfl rfl) ?_
  refine XS.go (s_iadd rfl) ?_
  refine XS.go (s_aloadn rfl rfl rfl) ?_
  refine XS.go (s_getie rfl xf0_22 (LY.lt L0 (by decide)) (LY.k1244 L0) (by decide) rfl rfl) ?_
  replace hf := xb_some hf
  obtain ⟨r1, e2, hf⟩ := hf
  refine r_callsn rfl xsX11_roundUp (List.mem_of_getElem? (i := 15) rfl) (kf_t_roundUp (d := d) L0 e2) rfl rfl (dl0 (by decide)) (by decide) (Nat.le_of_ble_eq_true rfl) ?_
  rintro _ _ ⟨⟨rfl, rfl⟩, L3⟩
  refine XS.go (s_sipush (v := 4000) rfl rfl) ?_
  refine r_icmp_le (tgt := 21) rfl rfl (fun qc4 => ?_) (fun qc4 => ?_)
  · replace hf := xi_pos hf qc4
    refine XS.go (s_aloadn rfl rfl rfl) ?_
    refine XS.go (s_aloadn rfl rfl rfl) ?_
    refine XS.go (s_iconst (v := 4) rfl rfl) ?_
    refine XS.go (s_aloadn rfl rfl rfl) ?_
    refine XS.go (s_getie rfl xf0_22 (LY.lt L3 (by decide)) (LY.k1244 L3) (by decide) rfl rfl) ?_
    replace hf := xb_some hf
    obtain ⟨r5, e6, hf⟩ := hf
    refine r_callv rfl xvX0_grow xm0_107 (kf_u_grow (d := d) L3 e6) (LY.lt L3 (by decide)) (LY.k1244 L3) (by decide) rfl rfl (dl (by decide)) (by decide) (Nat.le_of_ble_eq_true rfl) ?_
    rintro _ _ ⟨⟨rfl, rfl⟩, L7⟩
    refine XS.go (s_iloadn rfl rfl rfl) ?_
    refine XS.go (s_i2l rfl) ?_
    replace hf := xb_some hf
    obtain ⟨r8, e9, hf⟩ := hf
    refine r_callv rfl xvX0_putReference xm0_153 (kf_u_putReference (d := d) L7 e9) (LY.lt L7 (by decide)) (LY.k1244 L7) (by decide) rfl rfl (dl (by decide)) (by decide) (Nat.le_of_ble_eq_true rfl) ?_
    rintro _ _ ⟨⟨rfl, rfl⟩, L10⟩
    refine XS.go (s_aloadn rfl rfl rfl) ?_
    refine XS.go (s_aloadn rfl rfl rfl) ?_
    refine XS.go (s_getr rfl xf0_12 (LY.lt L10 (by decide)) (LY.k1244 L10) (by decide) rfl (LY.r1244_0 L10)) ?_
    refine XS.go (s_sipush (v := 4000) rfl rfl) ?_
    refine XS.go (s_aloadn rfl rfl rfl) ?_
    refine XS.go (s_getie rfl xf0_18 (LY.lt L10 (by decide)) (LY.k1244 L10) (by decide) rfl rfl) ?_
    refine XS.go (s_isub rfl) ?_
    refine XS.go (s_iconst (v := 0) rfl rfl) ?_
    refine XS.go (s_aloadn rfl rfl rfl) ?_
    refine XS.go (s_getie rfl xf0_18 (LY.lt L10 (by decide)) (LY.k1244 L10) (by decide) rfl rfl) ?_
    replace hf := xi_none hf
    obtain ⟨qk11, hf⟩ := hf
    replace hf := xb_some hf
    obtain ⟨r12, e13, hf⟩ := hf
    refine r_callv rfl xvX1_copy xm0_110 (kf_b_copy (d := d) L10 e13) qk11.1 qk11.2 (by decide) rfl rfl (dl (by decide)) (by decide) (Nat.le_of_ble_eq_true rfl) ?_
    rintro _ _ ⟨⟨rfl, rfl⟩, L14⟩
    refine XS.go (s_aloadn rfl rfl rfl) ?_
    refine XS.go (s_aloadn rfl rfl rfl) ?_
    refine XS.go (s_getie rfl xf0_18 (LY.lt L14 (by decide)) (LY.k1244 L14) (by decide) rfl rfl) ?_
    replace hf := xi_none hf
    obtain ⟨qk15, hf⟩ := hf
    refine XS.go (s_puti rfl xf0_199 qk15.1 qk15.2 (by decide) rfl (Or.inl rfl)) ?_
    refine XS.go (s_aloadn rfl rfl rfl) ?_
    replace hf := xb_some hf
    obtain ⟨r16, e17, hf⟩ := hf
    refine r_callv rfl xvX0_empty xm0_200 (kf_u_empty (d := d) (by simp only [LY_si, LY_sj]; exact L14) e17) (LY.lt (by simp only [LY_si, LY_sj]; exact L14) (by decide)) (LY.k1244 (by simp only [LY_si, LY_sj]; exact L14)) (by decide) rfl rfl (dl0 (by decide)) (by decide) (Nat.le_of_ble_eq_true rfl) ?_
    rintro _ _ ⟨⟨rfl, rfl⟩, L18⟩
    refine XS.go (s_iconst (v := 1) rfl rfl) ?_
    cases hf
    exact XR.retz rfl rfl (by decide) (fun hret => ⟨_, hret, ⟨rfl, rfl⟩, L18⟩)
  · replace hf := xi_neg hf qc4
    refine XS.go (s_iconst (v := 0) rfl rfl) ?_
    cases hf
    exact XR.retz rfl rfl (by decide) (fun hret => ⟨_, hret, ⟨rfl, rfl⟩, L3⟩)
def f_b_octetOrNone (t : Nat) (a0 : Int32) (h : XH) : Option (Int32 × XH) := (if a0 < 0 then (some ((-1), h)) else (if t < hz h ∧ hk h t = 1 then (if (hi h t 1) ≤ a0 then (some ((-1), h)) else (Option.bind (f_b_octet t a0 h) fun r4 => (some (r4.1, r4.2)))) else none))
set_option maxRecDepth 20000 in
theorem kf_b_octetOrNone {l : Launch} {G : XG} {d : Nat} {t : Nat} {a0 : Int32} {h : XH} {r : Int32 × XH} (L0 : LY h) (hf : f_b_octetOrNone t a0 h = some r) : XC l G xEX1_octetOrNone (d + 1) [.ref t, .int a0] h (fun v h2 => (h2 = r.2 ∧ v = some (.int r.1)) ∧ LY r.2) := by
  refine XC.virt xvX1_octetOrNone (Nat.le_of_ble_eq_true rfl) ?_
  unfold f_b_octetOrNone at hf
  refine XR.norm (L3 := [some (.ref t), some (.int a0)]) rfl ?_
  refine XS.go (s_iloadn rfl rfl rfl) ?_
  refine r_if_lt (tgt := 20) rfl rfl (fun qc1 => ?_) (fun qc1 => ?_)
  · replace hf := xi_pos hf qc1
    refine XS.go (s_iconst (v := (-1)) rfl rfl) ?_
    cases hf
    exact XR.reti rfl rfl (fun hret => ⟨_, hret, ⟨rfl, rfl⟩, L0⟩)
  · replace hf := xi_neg hf qc1
    refine XS.go (s_iloadn rfl rfl rfl) ?_
    refine XS.go (s_aloadn rfl rfl rfl) ?_
    replace hf := xi_none hf
    obtain ⟨qk2, hf⟩ := hf
    refine XS.go (s_getie rfl xf1_15 qk2.1 qk2.2 (by decide) rfl rfl) ?_
    refine r_icmp_ge (tgt := 20) rfl rfl (fun qc3 => ?_) (fun qc3 => ?_)
    · replace hf := xi_pos hf qc3
      refine XS.go (s_iconst (v := (-1)) rfl rfl) ?_
      cases hf
      exact XR.reti rfl rfl (fun hret => ⟨_, hret, ⟨rfl, rfl⟩, L0⟩)
    · replace hf := xi_neg hf qc3
      refine XS.go (s_aloadn rfl rfl rfl) ?_
      refine XS.go (s_iloadn rfl rfl rfl) ?_
      replace hf := xb_some hf
      obtain ⟨r4, e5, hf⟩ := hf
      refine r_callv rfl xvX1_octet xm1_19 (kf_b_octet (d := d) L0 e5) qk2.1 qk2.2 (by decide) rfl rfl (dl0 (by decide)) (by decide) (Nat.le_of_ble_eq_true rfl) ?_
      rintro _ _ ⟨⟨rfl, rfl⟩, L6⟩
      refine XS.go (s_goto (tgt := 21) rfl rfl) ?_
      cases hf
      exact XR.reti rfl rfl (fun hret => ⟨_, hret, ⟨rfl, rfl⟩, L6⟩)
def f_t_isScalar (a0 : Int32) (h : XH) : Option (Int32 × XH) := (if a0 < 0 then (some (0, h)) else (if 11 ≤ a0 then (some (0, h)) else (some (1, h))))
set_option maxRecDepth 20000 in
theorem kf_t_isScalar {l : Launch} {G : XG} {d : Nat} {a0 : Int32} {h : XH} {r : Int32 × XH} (L0 : LY h) (hf : f_t_isScalar a0 h = some r) : XC l G xEX11_isScalar d [.int a0] h (fun v h2 => (h2 = r.2 ∧ v = some (.int r.1)) ∧ LY r.2) := by
  refine XC.stat xsX11_isScalar (Nat.le_of_ble_eq_true rfl) ?_
  unfold f_t_isScalar at hf
  refine XR.norm (L3 := [some (.int a0)]) rfl ?_
  refine XS.go (s_iloadn rfl rfl rfl) ?_
  refine r_if_lt (tgt := 14) rfl rfl (fun qc1 => ?_) (fun qc1 => ?_)
  · replace hf := xi_pos hf qc1
    refine XS.go (s_iconst (v := 0) rfl rfl) ?_
    cases hf
    exact XR.retz rfl rfl (by decide) (fun hret => ⟨_, hret, ⟨rfl, rfl⟩, L0⟩)
  · replace hf := xi_neg hf qc1
    refine XS.go (s_iloadn rfl rfl rfl) ?_
    refine XS.go (s_bipush (v := 11) rfl rfl) ?_
    refine r_icmp_ge (tgt := 14) rfl rfl (fun qc2 => ?_) (fun qc2 => ?_)
    · replace hf := xi_pos hf qc2
      refine XS.go (s_iconst (v := 0) rfl rfl) ?_
      cases hf
      exact XR.retz rfl rfl (by decide) (fun hret => ⟨_, hret, ⟨rfl, rfl⟩, L0⟩)
    · replace hf := xi_neg hf qc2
      refine XS.go (s_iconst (v := 1) rfl rfl) ?_
      refine XS.go (s_goto (tgt := 15) rfl rfl) ?_
      cases hf
      exact XR.retz rfl rfl (by decide) (fun hret => ⟨_, hret, ⟨rfl, rfl⟩, L0⟩)
def f_t_hasSign (a0 : Int32) (h : XH) : Option (Int32 × XH) := (Option.bind (f_t_isScalar a0 h) fun r1 => (if r1.1 = 0 then (some (0, r1.2)) else (if 0 ≤ a0 ∧ a0 < nI 11 then (if 0 ≤ (lg_cmp (xLO (Int32.toNatClampNeg a0)) (0 : Int64)) then (some (0, r1.2)) else (some (1, r1.2))) else none)))
set_option maxRecDepth 20000 in
theorem kf_t_hasSign {l : Launch} {G : XG} {d : Nat} {a0 : Int32} {h : XH} {r : Int32 × XH} (L0 : LY h) (hf : f_t_hasSign a0 h = some r) : XC l G xEX11_hasSign (d + 1) [.int a0] h (fun v h2 => (h2 = r.2 ∧ v = some (.int r.1)) ∧ LY r.2) := by
  refine XC.stat xsX11_hasSign (Nat.le_of_ble_eq_true rfl) ?_
  unfold f_t_hasSign at hf
  refine XR.norm (L3 := [some (.int a0)]) rfl ?_
  refine XS.go (s_iloadn rfl rfl rfl) ?_
  replace hf := xb_some hf
  obtain ⟨r1, e2, hf⟩ := hf
  refine r_calls rfl xsX11_isScalar xm11_249 (kf_t_isScalar (d := d) L0 e2) rfl rfl (dl0 (by decide)) (by decide) (Nat.le_of_ble_eq_true rfl) ?_
  rintro _ _ ⟨⟨rfl, rfl⟩, L3⟩
  refine r_if_eq (tgt := 21) rfl rfl (fun qc4 => ?_) (fun qc4 => ?_)
  · replace hf := xi_pos hf qc4
    refine XS.go (s_iconst (v := 0) rfl rfl) ?_
    cases hf
    exact XR.retz rfl rfl (by decide) (fun hret => ⟨_, hret, ⟨rfl, rfl⟩, L3⟩)
  · replace hf := xi_neg hf qc4
    refine XS.go (s_gets2 rfl (lg_3 164 rfl rfl)) ?_
    refine XS.go (s_iloadn rfl rfl rfl) ?_
    replace hf := xi_none hf
    obtain ⟨qk5, hf⟩ := hf
    refine XS.go (s_ald2 rfl (inLit (rfl : (11 : Nat) = 11) qk5.1 qk5.2 (by decide))) ?_
    refine XS.go (s_lconst (v := 0) rfl rfl) ?_
    refine XS.go (s_lcmp rfl) ?_
    refine r_if_ge (tgt := 21) rfl rfl (fun qc6 => ?_) (fun qc6 => ?_)
    · replace hf := xi_pos hf qc6
      refine XS.go (s_iconst (v := 0) rfl rfl) ?_
      cases hf
      exact XR.retz rfl rfl (by decide) (fun hret => ⟨_, hret, ⟨rfl, rfl⟩, L3⟩)
    · replace hf := xi_neg hf qc6
      refine XS.go (s_iconst (v := 1) rfl rfl) ?_
      refine XS.go (s_goto (tgt := 22) rfl rfl) ?_
      cases hf
      exact XR.retz rfl rfl (by decide) (fun hret => ⟨_, hret, ⟨rfl, rfl⟩, L3⟩)
def f_b_scalar (t : Nat) (a0 : Int32) (a1 : Int32) (h : XH) : Option (Int64 × XH) := (Option.bind (f_t_scalarBytes a1 h) fun r1 => (if t < hz r1.2 ∧ hk r1.2 t = 1 then (Option.bind (f_b_number t a0 r1.1 r1.2) fun r5 => (Option.bind (f_t_hasSign a1 r5.2) fun r8 => (if r8.1 = 0 then (some (r5.1, r8.2)) else (some (((r5.1 <<< ((Int32.toInt64 (64 - (8 * r1.1))) &&& 63)) >>> ((Int32.toInt64 (64 - (8 * r1.1))) &&& 63)), r8.2))))) else none))
set_option maxRecDepth 20000 in
theorem kf_b_scalar {l : Launch} {G : XG} {d : Nat} {t : Nat} {a0 : Int32} {a1 : Int32} {h : XH} {r : Int64 × XH} (L0 : LY h) (hf : f_b_scalar t a0 a1 h = some r) : XC l G xEX1_scalar (d + 2) [.ref t, .int a0, .int a1] h (fun v h2 => (h2 = r.2 ∧ v = some (.long r.1)) ∧ LY r.2) := by
  refine XC.virt xvX1_scalar (Nat.le_of_ble_eq_true rfl) ?_
  unfold f_b_scalar at hf
  refine XR.norm (L3 := [some (.ref t), some (.int a0), some (.int a1), none, none, none, none]) rfl ?_
  refine XS.go (s_iloadn rfl rfl rfl) ?_
  replace hf := xb_some hf
  obtain ⟨r1, e2, hf⟩ := hf
  refine r_callsn rfl xsX11_scalarBytes (List.mem_of_getElem? (i := 17) rfl) (kf_t_scalarBytes (d := d) L0 e2) rfl rfl (dl0 (by decide)) (by decide) (Nat.le_of_ble_eq_true rfl) ?_
  rintro _ _ ⟨⟨rfl, rfl⟩, L3⟩
  refine XS.go (XS.lcl (L3 := [some (.ref t), some (.int a0), some (.int a1), some (.int r1.1), none, none, none]) (s_istoren rfl rfl (Nat.le_of_ble_eq_true rfl)) rfl) ?_
  refine XS.go (s_bipush (v := 64) rfl rfl) ?_
  refine XS.go (s_bipush (v := 8) rfl rfl) ?_
  refine XS.go (s_iloadn rfl rfl rfl) ?_
  refine XS.go (s_imul rfl) ?_
  refine XS.go (s_isub rfl) ?_
  refine XS.go (XS.lcl (L3 := [some (.ref t), some (.int a0), some (.int a1), some (.int r1.1), some (.int (64 - (8 * r1.1))), none, none]) (s_istore rfl (Nat.le_of_ble_eq_true rfl)) rfl) ?_
  refine XS.go (s_aloadn rfl rfl rfl) ?_
  refine XS.go (s_iloadn rfl rfl rfl) ?_
  refine XS.go (s_iloadn rfl rfl rfl) ?_
  replace hf := xi_none hf
  obtain ⟨qk4, hf⟩ := hf
  replace hf := xb_some hf
  obtain ⟨r5, e6, hf⟩ := hf
  refine r_callv rfl xvX1_number xm1_30 (kf_b_number (d := d) L3 e6) qk4.1 qk4.2 (by decide) rfl rfl (dl0 (by decide)) (by decide) (Nat.le_of_ble_eq_true rfl) ?_
  rintro _ _ ⟨⟨rfl, rfl⟩, L7⟩
  refine XS.go (XS.lcl (L3 := [some (.ref t), some (.int a0), some (.int a1), some (.int r1.1), some (.int (64 - (8 * r1.1))), some (.long r5.1), none]) (s_lstore rfl (Nat.le_of_ble_eq_true rfl)) rfl) ?_
  refine XS.go (s_iloadn rfl rfl rfl) ?_
  replace hf := xb_some hf
  obtain ⟨r8, e9, hf⟩ := hf
  refine r_callsn rfl xsX11_hasSign (List.mem_of_getElem? (i := 18) rfl) (kf_t_hasSign (d := d) L7 e9) rfl rfl (dl (by decide)) (by decide) (Nat.le_of_ble_eq_true rfl) ?_
  rintro _ _ ⟨⟨rfl, rfl⟩, L10⟩
  refine r_if_eq (tgt := 40) rfl rfl (fun qc11 => ?_) (fun qc11 => ?_)
  · replace hf := xi_pos hf qc11
    refine XS.go (s_lload rfl rfl) ?_
    cases hf
    exact XR.retl rfl rfl (fun hret => ⟨_, hret, ⟨rfl, rfl⟩, L10⟩)
  · replace hf := xi_neg hf qc11
    refine XS.go (s_lload rfl rfl) ?_
    refine XS.go (s_iload rfl rfl) ?_
    refine XS.go (s_lshl rfl) ?_
    refine XS.go (s_iload rfl rfl) ?_
    refine XS.go (s_lshr rfl) ?_
    refine XS.go (s_goto (tgt := 42) rfl rfl) ?_
    cases hf
    exact XR.retl rfl rfl (fun hret => ⟨_, hret, ⟨rfl, rfl⟩, L10⟩)
def s_b_hasZero_2 (K2 : Nat → Int32 → Int32 → XH → Option (Int32 × XH)) (x0 : Nat) (x1 : Int32) (x2 : Int32) (h : XH) : Option (Int32 × XH) := (if x1 ≤ x2 then (some (0, h)) else (if x0 < hz h ∧ hk h x0 = 1 then (Option.bind (f_b_octet x0 x2 h) fun r3 => (if ¬ r3.1 = 0 then (K2 x0 x1 (x2 + 1) r3.2) else (some (1, r3.2)))) else none))
set_option maxRecDepth 20000 in
theorem ks_b_hasZero_2 {l : Launch} {G : XG} {d : Nat} {K2 : Nat → Int32 → Int32 → XH → Option (Int32 × XH)} {x0 : Nat} {x1 : Int32} {x2 : Int32} {h : XH} {r : Int32 × XH} (hK2 : ∀ (x0 : Nat) (x1 : Int32) (x2 : Int32) (h : XH), LY h → K2 x0 x1 x2 h = some r → XR l G xEX1_hasZero (d + 1) (2, [some (.ref x0), some (.int x1), some (.int x2)], [], h) (fun C => ∃ v, xRet xEX1_hasZero C v ∧ (C.2.2.2 = r.2 ∧ v = some (.int r.1)) ∧ LY r.2)) (L0 : LY h) (hf : s_b_hasZero_2 K2 x0 x1 x2 h = some r) : XR l G xEX1_hasZero (d + 1) (2, [some (.ref x0), some (.int x1), some (.int x2)], [], h) (fun C => ∃ v, xRet xEX1_hasZero C v ∧ (C.2.2.2 = r.2 ∧ v = some (.int r.1)) ∧ LY r.2) := by
  unfold s_b_hasZero_2 at hf
  refine XS.go (s_iloadn rfl rfl rfl) ?_
  refine XS.go (s_iloadn rfl rfl rfl) ?_
  refine r_icmp_ge (tgt := 23) rfl rfl (fun qc1 => ?_) (fun qc1 => ?_)
  · replace hf := xi_pos hf qc1
    refine XS.go (s_iconst (v := 0) rfl rfl) ?_
    cases hf
    exact XR.retz rfl rfl (by decide) (fun hret => ⟨_, hret, ⟨rfl, rfl⟩, L0⟩)
  · replace hf := xi_neg hf qc1
    refine XS.go (s_aloadn rfl rfl rfl) ?_
    refine XS.go (s_iloadn rfl rfl rfl) ?_
    replace hf := xi_none hf
    obtain ⟨qk2, hf⟩ := hf
    replace hf := xb_some hf
    obtain ⟨r3, e4, hf⟩ := hf
    refine r_callv rfl xvX1_octet xm1_19 (kf_b_octet (d := d) L0 e4) qk2.1 qk2.2 (by decide) rfl rfl (dl0 (by decide)) (by decide) (Nat.le_of_ble_eq_true rfl) ?_
    rintro _ _ ⟨⟨rfl, rfl⟩, L5⟩
    refine r_if_ne (tgt := 17) rfl rfl (fun qc6 => ?_) (fun qc6 => ?_)
    · replace hf := xi_pos hf qc6
      refine XS.go (XS.lcl (L3 := [some (.ref x0), some (.int x1), some (.int (x2 + 1))]) (s_inc rfl rfl (Nat.le_of_ble_eq_true rfl)) rfl) ?_
      refine XS.go (s_goto (tgt := 2) rfl rfl) ?_
      exact XR.forget (L2 := [some (.ref x0), some (.int x1), some (.int (x2 + 1))]) ⟨rfl, ⟨rfl, ⟨rfl, trivial⟩⟩⟩ (hK2 x0 x1 (x2 + 1) _ L5 hf)
    · replace hf := xi_neg hf qc6
      refine XS.go (s_iconst (v := 1) rfl rfl) ?_
      cases hf
      exact XR.retz rfl rfl (by decide) (fun hret => ⟨_, hret, ⟨rfl, rfl⟩, L5⟩)
def b_b_hasZero_2 : Nat → Nat → Int32 → Int32 → XH → Option (Int32 × XH)
  | 0, _, _, _, _ => none
  | n + 1, x0, x1, x2, h => s_b_hasZero_2 (b_b_hasZero_2 n) x0 x1 x2 h
theorem kb_b_hasZero_2 {l : Launch} {G : XG} {d : Nat} {n : Nat} {x0 : Nat} {x1 : Int32} {x2 : Int32} {h : XH} {r : Int32 × XH} (L0 : LY h) (hf : b_b_hasZero_2 n x0 x1 x2 h = some r) : XR l G xEX1_hasZero (d + 1) (2, [some (.ref x0), some (.int x1), some (.int x2)], [], h) (fun C => ∃ v, xRet xEX1_hasZero C v ∧ (C.2.2.2 = r.2 ∧ v = some (.int r.1)) ∧ LY r.2) := by
  induction n generalizing x0 x1 x2 h with
  | zero => cases hf
  | succ n ih => exact ks_b_hasZero_2 (fun x0 x1 x2 h L0 hf => ih (h := h) (x0 := x0) (x1 := x1) (x2 := x2) L0 hf) L0 hf
def f_b_hasZero (t : Nat) (a0 : Int32) (h : XH) : Option (Int32 × XH) := (b_b_hasZero_2 100000 t a0 0 h)
set_option maxRecDepth 20000 in
theorem kf_b_hasZero {l : Launch} {G : XG} {d : Nat} {t : Nat} {a0 : Int32} {h : XH} {r : Int32 × XH} (L0 : LY h) (hf : f_b_hasZero t a0 h = some r) : XC l G xEX1_hasZero (d + 1) [.ref t, .int a0] h (fun v h2 => (h2 = r.2 ∧ v = some (.int r.1)) ∧ LY r.2) := by
  refine XC.virt xvX1_hasZero (Nat.le_of_ble_eq_true rfl) ?_
  unfold f_b_hasZero at hf
  refine XR.norm (L3 := [some (.ref t), some (.int a0), none]) rfl ?_
  refine XS.go (s_iconst (v := 0) rfl rfl) ?_
  refine XS.go (XS.lcl (L3 := [some (.ref t), some (.int a0), some (.int 0)]) (s_istoren rfl rfl (Nat.le_of_ble_eq_true rfl)) rfl) ?_
  exact XR.forget (L2 := [some (.ref t), some (.int a0), some (.int 0)]) ⟨rfl, ⟨rfl, ⟨rfl, trivial⟩⟩⟩ (kb_b_hasZero_2 L0 hf)
def s_b_packed_5 (K5 : Nat → Int32 → Int32 → Int64 → Int32 → XH → Option (Int64 × XH)) (x0 : Nat) (x1 : Int32) (x2 : Int32) (x3 : Int64) (x5 : Int32) (h : XH) : Option (Int64 × XH) := (if x2 ≤ x5 then (some (x3, h)) else (if (x1 + 8) ≤ x5 then (some (x3, h)) else (if x0 < hz h ∧ hk h x0 = 1 then (Option.bind (f_b_octet x0 x5 h) fun r4 => (K5 x0 x1 x2 ((x3 <<< ((Int32.toInt64 8) &&& 63)) ||| (Int32.toInt64 r4.1)) (x5 + 1) r4.2)) else none)))
set_option maxRecDepth 20000 in
theorem ks_b_packed_5 {l : Launch} {G : XG} {d : Nat} {K5 : Nat → Int32 → Int32 → Int64 → Int32 → XH → Option (Int64 × XH)} {x0 : Nat} {x1 : Int32} {x2 : Int32} {x3 : Int64} {x5 : Int32} {h : XH} {r : Int64 × XH} (hK5 : ∀ (x0 : Nat) (x1 : Int32) (x2 : Int32) (x3 : Int64) (x5 : Int32) (h : XH), LY h → K5 x0 x1 x2 x3 x5 h = some r → XR l G xEX1_packed (d + 1) (5, [some (.ref x0), some (.int x1), some (.int x2), some (.long x3), none, some (.int x5)], [], h) (fun C => ∃ v, xRet xEX1_packed C v ∧ (C.2.2.2 = r.2 ∧ v = some (.long r.1)) ∧ LY r.2)) (L0 : LY h) (hf : s_b_packed_5 K5 x0 x1 x2 x3 x5 h = some r) : XR l G xEX1_packed (d + 1) (5, [some (.ref x0), some (.int x1), some (.int x2), some (.long x3), none, some (.int x5)], [], h) (fun C => ∃ v, xRet xEX1_packed C v ∧ (C.2.2.2 = r.2 ∧ v = some (.long r.1)) ∧ LY r.2) := by
  unfold s_b_packed_5 at hf
  refine XS.go (s_iload rfl rfl) ?_
  refine XS.go (s_iloadn rfl rfl rfl) ?_
  refine r_icmp_ge (tgt := 39) rfl rfl (fun qc1 => ?_) (fun qc1 => ?_)
  · replace hf := xi_pos hf qc1
    refine XS.go (s_lloadn rfl rfl rfl) ?_
    cases hf
    exact XR.retl rfl rfl (fun hret => ⟨_, hret, ⟨rfl, rfl⟩, L0⟩)
  · replace hf := xi_neg hf qc1
    refine XS.go (s_iload rfl rfl) ?_
    refine XS.go (s_iloadn rfl rfl rfl) ?_
    refine XS.go (s_bipush (v := 8) rfl rfl) ?_
    refine XS.go (s_iadd rfl) ?_
    refine r_icmp_ge (tgt := 39) rfl rfl (fun qc2 => ?_) (fun qc2 => ?_)
    · replace hf := xi_pos hf qc2
      refine XS.go (s_lloadn rfl rfl rfl) ?_
      cases hf
      exact XR.retl rfl rfl (fun hret => ⟨_, hret, ⟨rfl, rfl⟩, L0⟩)
    · replace hf := xi_neg hf qc2
      refine XS.go (s_lloadn rfl rfl rfl) ?_
      refine XS.go (s_bipush (v := 8) rfl rfl) ?_
      refine XS.go (s_lshl rfl) ?_
      refine XS.go (s_aloadn rfl rfl rfl) ?_
      refine XS.go (s_iload rfl rfl) ?_
      replace hf := xi_none hf
      obtain ⟨qk3, hf⟩ := hf
      replace hf := xb_some hf
      obtain ⟨r4, e5, hf⟩ := hf
      refine r_callv rfl xvX1_octet xm1_19 (kf_b_octet (d := d) L0 e5) qk3.1 qk3.2 (by decide) rfl rfl (dl0 (by decide)) (by decide) (Nat.le_of_ble_eq_true rfl) ?_
      rintro _ _ ⟨⟨rfl, rfl⟩, L6⟩
      refine XS.go (s_i2l rfl) ?_
      refine XS.go (s_lor rfl) ?_
      refine XS.go (XS.lcl (L3 := [some (.ref x0), some (.int x1), some (.int x2), some (.long ((x3 <<< ((Int32.toInt64 8) &&& 63)) ||| (Int32.toInt64 r4.1))), none, some (.int x5)]) (s_lstoren rfl rfl (Nat.le_of_ble_eq_true rfl)) rfl) ?_
      refine XS.go (XS.lcl (L3 := [some (.ref x0), some (.int x1), some (.int x2), some (.long ((x3 <<< ((Int32.toInt64 8) &&& 63)) ||| (Int32.toInt64 r4.1))), none, some (.int (x5 + 1))]) (s_inc rfl rfl (Nat.le_of_ble_eq_true rfl)) rfl) ?_
      refine XS.go (s_goto (tgt := 5) rfl rfl) ?_
      exact XR.forget (L2 := [some (.ref x0), some (.int x1), some (.int x2), some (.long ((x3 <<< ((Int32.toInt64 8) &&& 63)) ||| (Int32.toInt64 r4.1))), none, some (.int (x5 + 1))]) ⟨rfl, ⟨rfl, ⟨rfl, ⟨rfl, ⟨rfl, trivial⟩⟩⟩⟩⟩ (hK5 x0 x1 x2 ((x3 <<< ((Int32.toInt64 8) &&& 63)) ||| (Int32.toInt64 r4.1)) (x5 + 1) _ L6 hf)
def b_b_packed_5 : Nat → Nat → Int32 → Int32 → Int64 → Int32 → XH → Option (Int64 × XH)
  | 0, _, _, _, _, _, _ => none
  | n + 1, x0, x1, x2, x3, x5, h => s_b_packed_5 (b_b_packed_5 n) x0 x1 x2 x3 x5 h
theorem kb_b_packed_5 {l : Launch} {G : XG} {d : Nat} {n : Nat} {x0 : Nat} {x1 : Int32} {x2 : Int32} {x3 : Int64} {x5 : Int32} {h : XH} {r : Int64 × XH} (L0 : LY h) (hf : b_b_packed_5 n x0 x1 x2 x3 x5 h = some r) : XR l G xEX1_packed (d + 1) (5, [some (.ref x0), some (.int x1), some (.int x2), some (.long x3), none, some (.int x5)], [], h) (fun C => ∃ v, xRet xEX1_packed C v ∧ (C.2.2.2 = r.2 ∧ v = some (.long r.1)) ∧ LY r.2) := by
  induction n generalizing x0 x1 x2 x3 x5 h with
  | zero => cases hf
  | succ n ih => exact ks_b_packed_5 (fun x0 x1 x2 x3 x5 h L0 hf => ih (h := h) (x0 := x0) (x1 := x1) (x2 := x2) (x3 := x3) (x5 := x5) L0 hf) L0 hf
def f_b_packed (t : Nat) (a0 : Int32) (a1 : Int32) (h : XH) : Option (Int64 × XH) := (b_b_packed_5 100000 t a0 a1 (0 : Int64) a0 h)
set_option maxRecDepth 20000 in
theorem kf_b_packed {l : Launch} {G : XG} {d : Nat} {t : Nat} {a0 : Int32} {a1 : Int32} {h : XH} {r : Int64 × XH} (L0 : LY h) (hf : f_b_packed t a0 a1 h = some r) : XC l G xEX1_packed (d + 1) [.ref t, .int a0, .int a1] h (fun v h2 => (h2 = r.2 ∧ v = some (.long r.1)) ∧ LY r.2) := by
  refine XC.virt xvX1_packed (Nat.le_of_ble_eq_true rfl) ?_
  unfold f_b_packed at hf
  refine XR.norm (L3 := [some (.ref t), some (.int a0), some (.int a1), none, none, none]) rfl ?_
  refine XS.go (s_lconst (v := 0) rfl rfl) ?_
  refine XS.go (XS.lcl (L3 := [some (.ref t), some (.int a0), some (.int a1), some (.long (0 : Int64)), none, none]) (s_lstoren rfl rfl (Nat.le_of_ble_eq_true rfl)) rfl) ?_
  refine XS.go (s_iloadn rfl rfl rfl) ?_
  refine XS.go (XS.lcl (L3 := [some (.ref t), some (.int a0), some (.int a1), some (.long (0 : Int64)), none, some (.int a0)]) (s_istore rfl (Nat.le_of_ble_eq_true rfl)) rfl) ?_
  exact XR.forget (L2 := [some (.ref t), some (.int a0), some (.int a1), some (.long (0 : Int64)), none, some (.int a0)]) ⟨rfl, ⟨rfl, ⟨rfl, ⟨rfl, ⟨rfl, trivial⟩⟩⟩⟩⟩ (kb_b_packed_5 L0 hf)
def f_b_behind (t : Nat) (a0 : Int32) (h : XH) : Option (Int32 × XH) := (if t < hz h ∧ hk h t = 1 then (Option.bind (f_b_number t a0 4 h) fun r2 => (some ((Int64.toInt32 ((Int32.toInt64 a0) + r2.1)), r2.2))) else none)
set_option maxRecDepth 20000 in
theorem kf_b_behind {l : Launch} {G : XG} {d : Nat} {t : Nat} {a0 : Int32} {h : XH} {r : Int32 × XH} (L0 : LY h) (hf : f_b_behind t a0 h = some r) : XC l G xEX1_behind (d + 1) [.ref t, .int a0] h (fun v h2 => (h2 = r.2 ∧ v = some (.int r.1)) ∧ LY r.2) := by
  refine XC.virt xvX1_behind (Nat.le_of_ble_eq_true rfl) ?_
  unfold f_b_behind at hf
  refine XR.norm (L3 := [some (.ref t), some (.int a0)]) rfl ?_
  refine XS.go (s_iloadn rfl rfl rfl) ?_
  refine XS.go (s_i2l rfl) ?_
  refine XS.go (s_aloadn rfl rfl rfl) ?_
  refine XS.go (s_iloadn rfl rfl rfl) ?_
  refine XS.go (s_iconst (v := 4) rfl rfl) ?_
  replace hf := xi_none hf
  obtain ⟨qk1, hf⟩ := hf
  replace hf := xb_some hf
  obtain ⟨r2, e3, hf⟩ := hf
  refine r_callv rfl xvX1_number xm1_30 (kf_b_number (d := d) L0 e3) qk1.1 qk1.2 (by decide) rfl rfl (dl0 (by decide)) (by decide) (Nat.le_of_ble_eq_true rfl) ?_
  rintro _ _ ⟨⟨rfl, rfl⟩, L4⟩
  refine XS.go (s_ladd rfl) ?_
  refine XS.go (s_l2i rfl) ?_
  cases hf
  exact XR.reti rfl rfl (fun hret => ⟨_, hret, ⟨rfl, rfl⟩, L4⟩)
def f_b_listOf (t : Nat) (a0 : Int32) (h : XH) : Option (Int64 × XH) := (if t < hz h ∧ hk h t = 1 then (Option.bind (f_b_number t a0 4 h) fun r2 => (some (((Int32.toInt64 a0) - (Int32.toInt64 (Int64.toInt32 r2.1))), r2.2))) else none)
set_option maxRecDepth 20000 in
theorem kf_b_listOf {l : Launch} {G : XG} {d : Nat} {t : Nat} {a0 : Int32} {h : XH} {r : Int64 × XH} (L0 : LY h) (hf : f_b_listOf t a0 h = some r) : XC l G xEX1_listOf (d + 1) [.ref t, .int a0] h (fun v h2 => (h2 = r.2 ∧ v = some (.long r.1)) ∧ LY r.2) := by
  refine XC.virt xvX1_listOf (Nat.le_of_ble_eq_true rfl) ?_
  unfold f_b_listOf at hf
  refine XR.norm (L3 := [some (.ref t), some (.int a0)]) rfl ?_
  refine XS.go (s_iloadn rfl rfl rfl) ?_
  refine XS.go (s_i2l rfl) ?_
  refine XS.go (s_aloadn rfl rfl rfl) ?_
  refine XS.go (s_iloadn rfl rfl rfl) ?_
  refine XS.go (s_iconst (v := 4) rfl rfl) ?_
  replace hf := xi_none hf
  obtain ⟨qk1, hf⟩ := hf
  replace hf := xb_some hf
  obtain ⟨r2, e3, hf⟩ := hf
  refine r_callv rfl xvX1_number xm1_30 (kf_b_number (d := d) L0 e3) qk1.1 qk1.2 (by decide) rfl rfl (dl0 (by decide)) (by decide) (Nat.le_of_ble_eq_true rfl) ?_
  rintro _ _ ⟨⟨rfl, rfl⟩, L4⟩
  refine XS.go (s_l2i rfl) ?_
  refine XS.go (s_i2l rfl) ?_
  refine XS.go (s_lsub rfl) ?_
  cases hf
  exact XR.retl rfl rfl (fun hret => ⟨_, hret, ⟨rfl, rfl⟩, L4⟩)
def f_b_slotNumber (t : Nat) (a0 : Int32) (a1 : Int32) (h : XH) : Option (Int32 × XH) := (if t < hz h ∧ hk h t = 1 then (Option.bind (f_b_number t a0 2 h) fun r2 => (if (lg_cmp (Int32.toInt64 ((4 + (2 * a1)) + 2)) r2.1) ≤ 0 then (if t < hz r2.2 ∧ hk r2.2 t = 1 then (Option.bind (f_b_number t (a0 + (4 + (2 * a1))) 2 r2.2) fun r7 => (some ((Int64.toInt32 r7.1), r7.2))) else none) else (some (0, r2.2)))) else none)
set_option maxRecDepth 20000 in
theorem kf_b_slotNumber {l : Launch} {G : XG} {d : Nat} {t : Nat} {a0 : Int32} {a1 : Int32} {h : XH} {r : Int32 × XH} (L0 : LY h) (hf : f_b_slotNumber t a0 a1 h = some r) : XC l G xEX1_slotNumber (d + 1) [.ref t, .int a0, .int a1] h (fun v h2 => (h2 = r.2 ∧ v = some (.int r.1)) ∧ LY r.2) := by
  refine XC.virt xvX1_slotNumber (Nat.le_of_ble_eq_true rfl) ?_
  unfold f_b_slotNumber at hf
  refine XR.norm (L3 := [some (.ref t), some (.int a0), some (.int a1), none]) rfl ?_
  refine XS.go (s_iconst (v := 4) rfl rfl) ?_
  refine XS.go (s_iconst (v := 2) rfl rfl) ?_
  refine XS.go (s_iloadn rfl rfl rfl) ?_
  refine XS.go (s_imul rfl) ?_
  refine XS.go (s_iadd rfl) ?_
  refine XS.go (XS.lcl (L3 := [some (.ref t), some (.int a0), some (.int a1), some (.int (4 + (2 * a1)))]) (s_istoren rfl rfl (Nat.le_of_ble_eq_true rfl)) rfl) ?_
  refine XS.go (s_iloadn rfl rfl rfl) ?_
  refine XS.go (s_iconst (v := 2) rfl rfl) ?_
  refine XS.go (s_iadd rfl) ?_
  refine XS.go (s_i2l rfl) ?_
  refine XS.go (s_aloadn rfl rfl rfl) ?_
  refine XS.go (s_iloadn rfl rfl rfl) ?_
  refine XS.go (s_iconst (v := 2) rfl rfl) ?_
  replace hf := xi_none hf
  obtain ⟨qk1, hf⟩ := hf
  replace hf := xb_some hf
  obtain ⟨r2, e3, hf⟩ := hf
  refine r_callv rfl xvX1_number xm1_30 (kf_b_number (d := d) L0 e3) qk1.1 qk1.2 (by decide) rfl rfl (dl0 (by decide)) (by decide) (Nat.le_of_ble_eq_true rfl) ?_
  rintro _ _ ⟨⟨rfl, rfl⟩, L4⟩
  refine XS.go (s_lcmp rfl) ?_
  refine r_if_le (tgt := 24) rfl rfl (fun qc5 => ?_) (fun qc5 => ?_)
  · replace hf := xi_pos hf qc5
    refine XS.go (s_aloadn rfl rfl rfl) ?_
    refine XS.go (s_iloadn rfl rfl rfl) ?_
    refine XS.go (s_iloadn rfl rfl rfl) ?_
    refine XS.go (s_iadd rfl) ?_
    refine XS.go (s_iconst (v := 2) rfl rfl) ?_
    replace hf := xi_none hf
    obtain ⟨qk6, hf⟩ := hf
    replace hf := xb_some hf
    obtain ⟨r7, e8, hf⟩ := hf
    refine r_callv rfl xvX1_number xm1_30 (kf_b_number (d := d) L4 e8) qk6.1 qk6.2 (by decide) rfl rfl (dl0 (by decide)) (by decide) (Nat.le_of_ble_eq_true rfl) ?_
    rintro _ _ ⟨⟨rfl, rfl⟩, L9⟩
    refine XS.go (s_l2i rfl) ?_
    cases hf
    exact XR.reti rfl rfl (fun hret => ⟨_, hret, ⟨rfl, rfl⟩, L9⟩)
  · replace hf := xi_neg hf qc5
    refine XS.go (s_iconst (v := 0) rfl rfl) ?_
    refine XS.go (s_goto (tgt := 33) rfl rfl) ?_
    cases hf
    exact XR.reti rfl rfl (fun hret => ⟨_, hret, ⟨rfl, rfl⟩, L4⟩)
def f_b_storedAt (t : Nat) (a0 : Int32) (a1 : Int32) (h : XH) : Option (Int32 × XH) := (if t < hz h ∧ hk h t = 1 then (Option.bind (f_b_listOf t a0 h) fun r2 => (if t < hz r2.2 ∧ hk r2.2 t = 1 then (Option.bind (f_b_slotNumber t (Int64.toInt32 r2.1) a1 r2.2) fun r6 => (if ¬ r6.1 = 0 then (some ((a0 + r6.1), r6.2)) else (some ((-1), r6.2)))) else none)) else none)
set_option maxRecDepth 20000 in
theorem kf_b_storedAt {l : Launch} {G : XG} {d : Nat} {t : Nat} {a0 : Int32} {a1 : Int32} {h : XH} {r : Int32 × XH} (L0 : LY h) (hf : f_b_storedAt t a0 a1 h = some r) : XC l G xEX1_storedAt (d + 2) [.ref t, .int a0, .int a1] h (fun v h2 => (h2 = r.2 ∧ v = some (.int r.1)) ∧ LY r.2) := by
  refine XC.virt xvX1_storedAt (Nat.le_of_ble_eq_true rfl) ?_
  unfold f_b_storedAt at hf
  refine XR.norm (L3 := [some (.ref t), some (.int a0), some (.int a1), none]) rfl ?_
  refine XS.go (s_aloadn rfl rfl rfl) ?_
  refine XS.go (s_aloadn rfl rfl rfl) ?_
  refine XS.go (s_iloadn rfl rfl rfl) ?_
  replace hf := xi_none hf
  obtain ⟨qk1, hf⟩ := hf
  replace hf := xb_some hf
  obtain ⟨r2, e3, hf⟩ := hf
  refine r_callv rfl xvX1_listOf xm1_38 (kf_b_listOf (d := d) L0 e3) qk1.1 qk1.2 (by decide) rfl rfl (dl (by decide)) (by decide) (Nat.le_of_ble_eq_true rfl) ?_
  rintro _ _ ⟨⟨rfl, rfl⟩, L4⟩
  refine XS.go (s_l2i rfl) ?_
  refine XS.go (s_iloadn rfl rfl rfl) ?_
  replace hf := xi_none hf
  obtain ⟨qk5, hf⟩ := hf
  replace hf := xb_some hf
  obtain ⟨r6, e7, hf⟩ := hf
  refine r_callv rfl xvX1_slotNumber xm1_42 (kf_b_slotNumber (d := d) L4 e7) qk5.1 qk5.2 (by decide) rfl rfl (dl (by decide)) (by decide) (Nat.le_of_ble_eq_true rfl) ?_
  rintro _ _ ⟨⟨rfl, rfl⟩, L8⟩
  refine XS.go (XS.lcl (L3 := [some (.ref t), some (.int a0), some (.int a1), some (.int r6.1)]) (s_istoren rfl rfl (Nat.le_of_ble_eq_true rfl)) rfl) ?_
  refine XS.go (s_iloadn rfl rfl rfl) ?_
  refine r_if_ne (tgt := 20) rfl rfl (fun qc9 => ?_) (fun qc9 => ?_)
  · replace hf := xi_pos hf qc9
    refine XS.go (s_iloadn rfl rfl rfl) ?_
    refine XS.go (s_iloadn rfl rfl rfl) ?_
    refine XS.go (s_iadd rfl) ?_
    cases hf
    exact XR.reti rfl rfl (fun hret => ⟨_, hret, ⟨rfl, rfl⟩, L8⟩)
  · replace hf := xi_neg hf qc9
    refine XS.go (s_iconst (v := (-1)) rfl rfl) ?_
    refine XS.go (s_goto (tgt := 23) rfl rfl) ?_
    cases hf
    exact XR.reti rfl rfl (fun hret => ⟨_, hret, ⟨rfl, rfl⟩, L8⟩)
def f_f_init (t : Nat) (h : XH) : Option (Unit × XH) := (if t < hz h ∧ hk h t = 3 then (some ((), (hsj (hsi (hsi (hsi (hsi (hsi (hsi (hsj (hsj h t 0 (0 : Int64)) t 1 (0 : Int64)) t 2 (-1)) t 3 (-1)) t 4 0) t 5 (-1)) t 6 0) t 7 0) t 8 (0 : Int64)))) else none)
set_option maxRecDepth 20000 in
theorem kf_f_init {l : Launch} {G : XG} {d : Nat} {t : Nat} {h : XH} {r : Unit × XH} (L0 : LY h) (hf : f_f_init t h = some r) : XC l G xEX3_init (d + 1) [.ref t] h (fun v h2 => (h2 = r.2 ∧ v = none) ∧ LY r.2) := by
  refine XC.init xnX3_init (Nat.le_of_ble_eq_true rfl) ?_
  unfold f_f_init at hf
  refine XR.norm (L3 := [some (.ref t)]) rfl ?_
  refine XS.go (s_aloadn rfl rfl rfl) ?_
  refine XS.go (s_objInit rfl (lg_1 119 rfl rfl) (lg_1 33 rfl rfl) (lg_1 34 rfl rfl) (dl1 (by decide)) (Nat.le_of_ble_eq_true rfl)) ?_
  refine XS.go (s_aloadn rfl rfl rfl) ?_
  refine XS.go (s_lconst (v := 0) rfl rfl) ?_
  replace hf := xi_none hf
  obtain ⟨qk1, hf⟩ := hf
  refine XS.go (s_putj rfl xf3_9 qk1.1 qk1.2 (by decide) rfl (Or.inl rfl)) ?_
  refine XS.go (s_aloadn rfl rfl rfl) ?_
  refine XS.go (s_lconst (v := 0) rfl rfl) ?_
  refine XS.go (s_putj rfl xf3_15 (show t < hz _ by simp only [hz_hsi, hk_hsi, hz_hsj, hk_hsj]; exact qk1.1) (by simp only [hz_hsi, hk_hsi, hz_hsj, hk_hsj]; exact qk1.2) (by decide) rfl (Or.inl rfl)) ?_
  refine XS.go (s_aloadn rfl rfl rfl) ?_
  refine XS.go (s_iconst (v := (-1)) rfl rfl) ?_
  refine XS.go (s_puti rfl xf3_18 (show t < hz _ by simp only [hz_hsi, hk_hsi, hz_hsj, hk_hsj]; exact qk1.1) (by simp only [hz_hsi, hk_hsi, hz_hsj, hk_hsj]; exact qk1.2) (by decide) rfl (Or.inl rfl)) ?_
  refine XS.go (s_aloadn rfl rfl rfl) ?_
  refine XS.go (s_iconst (v := (-1)) rfl rfl) ?_
  refine XS.go (s_puti rfl xf3_22 (show t < hz _ by simp only [hz_hsi, hk_hsi, hz_hsj, hk_hsj]; exact qk1.1) (by simp only [hz_hsi, hk_hsi, hz_hsj, hk_hsj]; exact qk1.2) (by decide) rfl (Or.inl rfl)) ?_
  refine XS.go (s_aloadn rfl rfl rfl) ?_
  refine XS.go (s_iconst (v := 0) rfl rfl) ?_
  refine XS.go (s_puti rfl xf3_25 (show t < hz _ by simp only [hz_hsi, hk_hsi, hz_hsj, hk_hsj]; exact qk1.1) (by simp only [hz_hsi, hk_hsi, hz_hsj, hk_hsj]; exact qk1.2) (by decide) rfl (Or.inl rfl)) ?_
  refine XS.go (s_aloadn rfl rfl rfl) ?_
  refine XS.go (s_iconst (v := (-1)) rfl rfl) ?_
  refine XS.go (s_puti rfl xf3_28 (show t < hz _ by simp only [hz_hsi, hk_hsi, hz_hsj, hk_hsj]; exact qk1.1) (by simp only [hz_hsi, hk_hsi, hz_hsj, hk_hsj]; exact qk1.2) (by decide) rfl (Or.inl rfl)) ?_
  refine XS.go (s_aloadn rfl rfl rfl) ?_
  refine XS.go (s_iconst (v := 0) rfl rfl) ?_
  refine XS.go (s_puti rfl xf3_31 (show t < hz _ by simp only [hz_hsi, hk_hsi, hz_hsj, hk_hsj]; exact qk1.1) (by simp only [hz_hsi, hk_hsi, hz_hsj, hk_hsj]; exact qk1.2) (by decide) rfl (Or.inl rfl)) ?_
  refine XS.go (s_aloadn rfl rfl rfl) ?_
  refine XS.go (s_iconst (v := 0) rfl rfl) ?_
  refine XS.go (s_putz rfl xf3_34 (show t < hz _ by simp only [hz_hsi, hk_hsi, hz_hsj, hk_hsj]; exact qk1.1) (by simp only [hz_hsi, hk_hsi, hz_hsj, hk_hsj]; exact qk1.2) (by decide) rfl (Or.inl rfl) (by decide)) ?_
  refine XS.go (s_aloadn rfl rfl rfl) ?_
  refine XS.go (s_lconst (v := 0) rfl rfl) ?_
  refine XS.go (s_putj rfl xf3_38 (show t < hz _ by simp only [hz_hsi, hk_hsi, hz_hsj, hk_hsj]; exact qk1.1) (by simp only [hz_hsi, hk_hsi, hz_hsj, hk_hsj]; exact qk1.2) (by decide) rfl (Or.inl rfl)) ?_
  cases hf
  exact XR.retv rfl rfl (fun hret => ⟨_, hret, ⟨rfl, rfl⟩, (by simp only [LY_si, LY_sj]; exact L0)⟩)
def f_d_restart (t : Nat) (a0 : Int64) (a1 : Int64) (h : XH) : Option (Unit × XH) := (if t < hz h ∧ hk h t = 2 then (some ((), (hsi (hsi (hsi (hsi (hsi (hsj (hsj h t 4 a0) t 5 a1) t 3 0) t 6 0) t 7 1) t 8 0) t 11 0))) else none)
set_option maxRecDepth 20000 in
theorem kf_d_restart {l : Launch} {G : XG} {d : Nat} {t : Nat} {a0 : Int64} {a1 : Int64} {h : XH} {r : Unit × XH} (L0 : LY h) (hf : f_d_restart t a0 a1 h = some r) : XC l G xEX2_restart d [.ref t, .long a0, .long a1] h (fun v h2 => (h2 = r.2 ∧ v = none) ∧ LY r.2) := by
  refine XC.virt xvX2_restart (Nat.le_of_ble_eq_true rfl) ?_
  unfold f_d_restart at hf
  refine XR.norm (L3 := [some (.ref t), some (.long a0), none, some (.long a1), none]) rfl ?_
  refine XS.go (s_aloadn rfl rfl rfl) ?_
  refine XS.go (s_lloadn rfl rfl rfl) ?_
  replace hf := xi_none hf
  obtain ⟨qk1, hf⟩ := hf
  refine XS.go (s_putj rfl xf2_15 qk1.1 qk1.2 (by decide) rfl (Or.inl rfl)) ?_
  refine XS.go (s_aloadn rfl rfl rfl) ?_
  refine XS.go (s_lloadn rfl rfl rfl) ?_
  refine XS.go (s_putj rfl xf2_19 (show t < hz _ by simp only [hz_hsi, hk_hsi, hz_hsj, hk_hsj]; exact qk1.1) (by simp only [hz_hsi, hk_hsi, hz_hsj, hk_hsj]; exact qk1.2) (by decide) rfl (Or.inl rfl)) ?_
  refine XS.go (s_aloadn rfl rfl rfl) ?_
  refine XS.go (s_iconst (v := 0) rfl rfl) ?_
  refine XS.go (s_puti rfl xf2_9 (show t < hz _ by simp only [hz_hsi, hk_hsi, hz_hsj, hk_hsj]; exact qk1.1) (by simp only [hz_hsi, hk_hsi, hz_hsj, hk_hsj]; exact qk1.2) (by decide) rfl (Or.inl rfl)) ?_
  refine XS.go (s_aloadn rfl rfl rfl) ?_
  refine XS.go (s_iconst (v := 0) rfl rfl) ?_
  refine XS.go (s_puti rfl xf2_22 (show t < hz _ by simp only [hz_hsi, hk_hsi, hz_hsj, hk_hsj]; exact qk1.1) (by simp only [hz_hsi, hk_hsi, hz_hsj, hk_hsj]; exact qk1.2) (by decide) rfl (Or.inl rfl)) ?_
  refine XS.go (s_aloadn rfl rfl rfl) ?_
  refine XS.go (s_iconst (v := 1) rfl rfl) ?_
  refine XS.go (s_puti rfl xf2_25 (show t < hz _ by simp only [hz_hsi, hk_hsi, hz_hsj, hk_hsj]; exact qk1.1) (by simp only [hz_hsi, hk_hsi, hz_hsj, hk_hsj]; exact qk1.2) (by decide) rfl (Or.inl rfl)) ?_
  refine XS.go (s_aloadn rfl rfl rfl) ?_
  refine XS.go (s_iconst (v := 0) rfl rfl) ?_
  refine XS.go (s_puti rfl xf2_28 (show t < hz _ by simp only [hz_hsi, hk_hsi, hz_hsj, hk_hsj]; exact qk1.1) (by simp only [hz_hsi, hk_hsi, hz_hsj, hk_hsj]; exact qk1.2) (by decide) rfl (Or.inl rfl)) ?_
  refine XS.go (s_aloadn rfl rfl rfl) ?_
  refine XS.go (s_iconst (v := 0) rfl rfl) ?_
  refine XS.go (s_puti rfl xf2_31 (show t < hz _ by simp only [hz_hsi, hk_hsi, hz_hsj, hk_hsj]; exact qk1.1) (by simp only [hz_hsi, hk_hsi, hz_hsj, hk_hsj]; exact qk1.2) (by decide) rfl (Or.inl rfl)) ?_
  cases hf
  exact XR.retv rfl rfl (fun hret => ⟨_, hret, ⟨rfl, rfl⟩, (by simp only [LY_si, LY_sj]; exact L0)⟩)
def b_d_fieldNamed_55 (K3 : Nat → Int64 → Int64 → Int32 → XH → Option (Int32 × XH)) (x0 : Nat) (x1 : Int64) (x3 : Int64) (x5 : Int32) (h : XH) : Option (Int32 × XH) := (K3 x0 x1 x3 (x5 + 1) h)
set_option maxRecDepth 20000 in
theorem kb_d_fieldNamed_55 {l : Launch} {G : XG} {d : Nat} {K3 : Nat → Int64 → Int64 → Int32 → XH → Option (Int32 × XH)} {x0 : Nat} {x1 : Int64} {x3 : Int64} {x5 : Int32} {h : XH} {r : Int32 × XH} (hK3 : ∀ (x0 : Nat) (x1 : Int64) (x3 : Int64) (x5 : Int32) (h : XH), LY h → K3 x0 x1 x3 x5 h = some r → XR l G xEX2_fieldNamed d (3, [some (.ref x0), some (.long x1), none, some (.long x3), none, some (.int x5)], [], h) (fun C => ∃ v, xRet xEX2_fieldNamed C v ∧ (C.2.2.2 = r.2 ∧ v = some (.int r.1)) ∧ LY r.2)) (L0 : LY h) (hf : b_d_fieldNamed_55 K3 x0 x1 x3 x5 h = some r) : XR l G xEX2_fieldNamed d (55, [some (.ref x0), some (.long x1), none, some (.long x3), none, some (.int x5)], [], h) (fun C => ∃ v, xRet xEX2_fieldNamed C v ∧ (C.2.2.2 = r.2 ∧ v = some (.int r.1)) ∧ LY r.2) := by
  unfold b_d_fieldNamed_55 at hf
  refine XS.go (XS.lcl (L3 := [some (.ref x0), some (.long x1), none, some (.long x3), none, some (.int (x5 + 1))]) (s_inc rfl rfl (Nat.le_of_ble_eq_true rfl)) rfl) ?_
  refine XS.go (s_goto (tgt := 3) rfl rfl) ?_
  exact XR.forget (L2 := [some (.ref x0), some (.long x1), none, some (.long x3), none, some (.int (x5 + 1))]) ⟨rfl, ⟨rfl, ⟨rfl, ⟨rfl, trivial⟩⟩⟩⟩ (hK3 x0 x1 x3 (x5 + 1) _ L0 hf)
def s_d_fieldNamed_3 (K3 : Nat → Int64 → Int64 → Int32 → XH → Option (Int32 × XH)) (x0 : Nat) (x1 : Int64) (x3 : Int64) (x5 : Int32) (h : XH) : Option (Int32 × XH) := (if x0 < hz h ∧ hk h x0 = 2 then (if (hi h x0 3) ≤ x5 then (some ((-1), h)) else (Option.bind (hr h x0 2) fun b3 => (if b3 < hz h ∧ hk h b3 = 104 then (if (nI (hn h b3)) ≤ x5 then (some ((-1), h)) else (if 0 ≤ x5 ∧ x5 < nI (hn h b3) ∧ (hn h b3) < 2 ^ 31 then (Option.bind (hr h b3 (Int32.toNatClampNeg x5)) fun b8 => (if b8 < hz h ∧ hk h b8 = 3 then (if ¬ (lg_cmp (hj h b8 0) x1) = 0 then (b_d_fieldNamed_55 K3 x0 x1 x3 x5 h) else (if ¬ (lg_cmp (hj h b8 1) x3) = 0 then (b_d_fieldNamed_55 K3 x0 x1 x3 x5 h) else (some (x5, h)))) else none)) else none)) else none))) else none)
set_option maxRecDepth 20000 in
theorem ks_d_fieldNamed_3 {l : Launch} {G : XG} {d : Nat} {K3 : Nat → Int64 → Int64 → Int32 → XH → Option (Int32 × XH)} {x0 : Nat} {x1 : Int64} {x3 : Int64} {x5 : Int32} {h : XH} {r : Int32 × XH} (hK3 : ∀ (x0 : Nat) (x1 : Int64) (x3 : Int64) (x5 : Int32) (h : XH), LY h → K3 x0 x1 x3 x5 h = some r → XR l G xEX2_fieldNamed d (3, [some (.ref x0), some (.long x1), none, some (.long x3), none, some (.int x5)], [], h) (fun C => ∃ v, xRet xEX2_fieldNamed C v ∧ (C.2.2.2 = r.2 ∧ v = some (.int r.1)) ∧ LY r.2)) (L0 : LY h) (hf : s_d_fieldNamed_3 K3 x0 x1 x3 x5 h = some r) : XR l G xEX2_fieldNamed d (3, [some (.ref x0), some (.long x1), none, some (.long x3), none, some (.int x5)], [], h) (fun C => ∃ v, xRet xEX2_fieldNamed C v ∧ (C.2.2.2 = r.2 ∧ v = some (.int r.1)) ∧ LY r.2) := by
  unfold s_d_fieldNamed_3 at hf
  refine XS.go (s_iload rfl rfl) ?_
  refine XS.go (s_aloadn rfl rfl rfl) ?_
  replace hf := xi_none hf
  obtain ⟨qk1, hf⟩ := hf
  refine XS.go (s_getie rfl xf2_9 qk1.1 qk1.2 (by decide) rfl rfl) ?_
  refine r_icmp_ge (tgt := 61) rfl rfl (fun qc2 => ?_) (fun qc2 => ?_)
  · replace hf := xi_pos hf qc2
    refine XS.go (s_iconst (v := (-1)) rfl rfl) ?_
    cases hf
    exact XR.reti rfl rfl (fun hret => ⟨_, hret, ⟨rfl, rfl⟩, L0⟩)
  · replace hf := xi_neg hf qc2
    refine XS.go (s_iload rfl rfl) ?_
    refine XS.go (s_aloadn rfl rfl rfl) ?_
    replace hf := xb_some hf
    obtain ⟨b3, qr4, hf⟩ := hf
    refine XS.go (s_getr rfl xf2_42 qk1.1 qk1.2 (by decide) rfl qr4) ?_
    replace hf := xi_none hf
    obtain ⟨qk5, hf⟩ := hf
    refine XS.go (s_alene (N := hn h b3) rfl qk5.1 qk5.2 rfl (by decide)) ?_
    refine r_icmp_ge (tgt := 61) rfl rfl (fun qc6 => ?_) (fun qc6 => ?_)
    · replace hf := xi_pos hf qc6
      refine XS.go (s_iconst (v := (-1)) rfl rfl) ?_
      cases hf
      exact XR.reti rfl rfl (fun hret => ⟨_, hret, ⟨rfl, rfl⟩, L0⟩)
    · replace hf := xi_neg hf qc6
      refine XS.go (s_aloadn rfl rfl rfl) ?_
      refine XS.go (s_getr rfl xf2_42 qk1.1 qk1.2 (by decide) rfl qr4) ?_
      refine XS.go (s_iload rfl rfl) ?_
      replace hf := xi_none hf
      obtain ⟨qk7, hf⟩ := hf
      replace hf := xb_some hf
      obtain ⟨b8, qr9, hf⟩ := hf
      refine XS.go (s_aald104e rfl qk5.1 qk5.2 (inLit (N := hn h b3) rfl qk7.1 qk7.2.1 qk7.2.2) qr9) ?_
      replace hf := xi_none hf
      obtain ⟨qk10, hf⟩ := hf
      refine XS.go (s_getje rfl xf2_54 qk10.1 qk10.2 (by decide) rfl rfl) ?_
      refine XS.go (s_lloadn rfl rfl rfl) ?_
      refine XS.go (s_lcmp rfl) ?_
      refine r_if_ne (tgt := 55) rfl rfl (fun qc11 => ?_) (fun qc11 => ?_)
      · replace hf := xi_pos hf qc11
        exact XR.forget (L2 := [some (.ref x0), some (.long x1), none, some (.long x3), none, some (.int x5)]) ⟨rfl, ⟨rfl, ⟨rfl, ⟨rfl, trivial⟩⟩⟩⟩ (kb_d_fieldNamed_55 hK3 L0 hf)
      · replace hf := xi_neg hf qc11
        refine XS.go (s_aloadn rfl rfl rfl) ?_
        refine XS.go (s_getr rfl xf2_42 qk1.1 qk1.2 (by decide) rfl qr4) ?_
        refine XS.go (s_iload rfl rfl) ?_
        refine XS.go (s_aald104e rfl qk5.1 qk5.2 (inLit (N := hn h b3) rfl qk7.1 qk7.2.1 qk7.2.2) qr9) ?_
        refine XS.go (s_getje rfl xf2_55 qk10.1 qk10.2 (by decide) rfl rfl) ?_
        refine XS.go (s_lloadn rfl rfl rfl) ?_
        refine XS.go (s_lcmp rfl) ?_
        refine r_if_ne (tgt := 55) rfl rfl (fun qc12 => ?_) (fun qc12 => ?_)
        · replace hf := xi_pos hf qc12
          exact XR.forget (L2 := [some (.ref x0), some (.long x1), none, some (.long x3), none, some (.int x5)]) ⟨rfl, ⟨rfl, ⟨rfl, ⟨rfl, trivial⟩⟩⟩⟩ (kb_d_fieldNamed_55 hK3 L0 hf)
        · replace hf := xi_neg hf qc12
          refine XS.go (s_iload rfl rfl) ?_
          cases hf
          exact XR.reti rfl rfl (fun hret => ⟨_, hret, ⟨rfl, rfl⟩, L0⟩)
def b_d_fieldNamed_3 : Nat → Nat → Int64 → Int64 → Int32 → XH → Option (Int32 × XH)
  | 0, _, _, _, _, _ => none
  | n + 1, x0, x1, x3, x5, h => s_d_fieldNamed_3 (b_d_fieldNamed_3 n) x0 x1 x3 x5 h
theorem kb_d_fieldNamed_3 {l : Launch} {G : XG} {d : Nat} {n : Nat} {x0 : Nat} {x1 : Int64} {x3 : Int64} {x5 : Int32} {h : XH} {r : Int32 × XH} (L0 : LY h) (hf : b_d_fieldNamed_3 n x0 x1 x3 x5 h = some r) : XR l G xEX2_fieldNamed d (3, [some (.ref x0), some (.long x1), none, some (.long x3), none, some (.int x5)], [], h) (fun C => ∃ v, xRet xEX2_fieldNamed C v ∧ (C.2.2.2 = r.2 ∧ v = some (.int r.1)) ∧ LY r.2) := by
  induction n generalizing x0 x1 x3 x5 h with
  | zero => cases hf
  | succ n ih => exact ks_d_fieldNamed_3 (fun x0 x1 x3 x5 h L0 hf => ih (h := h) (x0 := x0) (x1 := x1) (x3 := x3) (x5 := x5) L0 hf) L0 hf
def f_d_fieldNamed (t : Nat) (a0 : Int64) (a1 : Int64) (h : XH) : Option (Int32 × XH) := (b_d_fieldNamed_3 100000 t a0 a1 0 h)
set_option maxRecDepth 20000 in
theorem kf_d_fieldNamed {l : Launch} {G : XG} {d : Nat} {t : Nat} {a0 : Int64} {a1 : Int64} {h : XH} {r : Int32 × XH} (L0 : LY h) (hf : f_d_fieldNamed t a0 a1 h = some r) : XC l G xEX2_fieldNamed d [.ref t, .long a0, .long a1] h (fun v h2 => (h2 = r.2 ∧ v = some (.int r.1)) ∧ LY r.2) := by
  refine XC.virt xvX2_fieldNamed (Nat.le_of_ble_eq_true rfl) ?_
  unfold f_d_fieldNamed at hf
  refine XR.norm (L3 := [some (.ref t), some (.long a0), none, some (.long a1), none, none]) rfl ?_
  refine XS.go (s_iconst (v := 0) rfl rfl) ?_
  refine XS.go (XS.lcl (L3 := [some (.ref t), some (.long a0), none, some (.long a1), none, some (.int 0)]) (s_istore rfl (Nat.le_of_ble_eq_true rfl)) rfl) ?_
  exact XR.forget (L2 := [some (.ref t), some (.long a0), none, some (.long a1), none, some (.int 0)]) ⟨rfl, ⟨rfl, ⟨rfl, ⟨rfl, trivial⟩⟩⟩⟩ (kb_d_fieldNamed_3 L0 hf)
def f_f_restart (t : Nat) (a0 : Int64) (a1 : Int64) (h : XH) : Option (Unit × XH) := (if t < hz h ∧ hk h t = 3 then (some ((), (hsj (hsi (hsi (hsi (hsi (hsi (hsi (hsj (hsj h t 0 a0) t 1 a1) t 2 (-1)) t 3 (-1)) t 4 0) t 5 (-1)) t 6 0) t 7 0) t 8 (0 : Int64)))) else none)
set_option maxRecDepth 20000 in
theorem kf_f_restart {l : Launch} {G : XG} {d : Nat} {t : Nat} {a0 : Int64} {a1 : Int64} {h : XH} {r : Unit × XH} (L0 : LY h) (hf : f_f_restart t a0 a1 h = some r) : XC l G xEX3_restart d [.ref t, .long a0, .long a1] h (fun v h2 => (h2 = r.2 ∧ v = none) ∧ LY r.2) := by
  refine XC.virt xvX3_restart (Nat.le_of_ble_eq_true rfl) ?_
  unfold f_f_restart at hf
  refine XR.norm (L3 := [some (.ref t), some (.long a0), none, some (.long a1), none]) rfl ?_
  refine XS.go (s_aloadn rfl rfl rfl) ?_
  refine XS.go (s_lloadn rfl rfl rfl) ?_
  replace hf := xi_none hf
  obtain ⟨qk1, hf⟩ := hf
  refine XS.go (s_putj rfl xf3_9 qk1.1 qk1.2 (by decide) rfl (Or.inl rfl)) ?_
  refine XS.go (s_aloadn rfl rfl rfl) ?_
  refine XS.go (s_lloadn rfl rfl rfl) ?_
  refine XS.go (s_putj rfl xf3_15 (show t < hz _ by simp only [hz_hsi, hk_hsi, hz_hsj, hk_hsj]; exact qk1.1) (by simp only [hz_hsi, hk_hsi, hz_hsj, hk_hsj]; exact qk1.2) (by decide) rfl (Or.inl rfl)) ?_
  refine XS.go (s_aloadn rfl rfl rfl) ?_
  refine XS.go (s_iconst (v := (-1)) rfl rfl) ?_
  refine XS.go (s_puti rfl xf3_18 (show t < hz _ by simp only [hz_hsi, hk_hsi, hz_hsj, hk_hsj]; exact qk1.1) (by simp only [hz_hsi, hk_hsi, hz_hsj, hk_hsj]; exact qk1.2) (by decide) rfl (Or.inl rfl)) ?_
  refine XS.go (s_aloadn rfl rfl rfl) ?_
  refine XS.go (s_iconst (v := (-1)) rfl rfl) ?_
  refine XS.go (s_puti rfl xf3_22 (show t < hz _ by simp only [hz_hsi, hk_hsi, hz_hsj, hk_hsj]; exact qk1.1) (by simp only [hz_hsi, hk_hsi, hz_hsj, hk_hsj]; exact qk1.2) (by decide) rfl (Or.inl rfl)) ?_
  refine XS.go (s_aloadn rfl rfl rfl) ?_
  refine XS.go (s_iconst (v := 0) rfl rfl) ?_
  refine XS.go (s_puti rfl xf3_25 (show t < hz _ by simp only [hz_hsi, hk_hsi, hz_hsj, hk_hsj]; exact qk1.1) (by simp only [hz_hsi, hk_hsi, hz_hsj, hk_hsj]; exact qk1.2) (by decide) rfl (Or.inl rfl)) ?_
  refine XS.go (s_aloadn rfl rfl rfl) ?_
  refine XS.go (s_iconst (v := (-1)) rfl rfl) ?_
  refine XS.go (s_puti rfl xf3_28 (show t < hz _ by simp only [hz_hsi, hk_hsi, hz_hsj, hk_hsj]; exact qk1.1) (by simp only [hz_hsi, hk_hsi, hz_hsj, hk_hsj]; exact qk1.2) (by decide) rfl (Or.inl rfl)) ?_
  refine XS.go (s_aloadn rfl rfl rfl) ?_
  refine XS.go (s_iconst (v := 0) rfl rfl) ?_
  refine XS.go (s_puti rfl xf3_31 (show t < hz _ by simp only [hz_hsi, hk_hsi, hz_hsj, hk_hsj]; exact qk1.1) (by simp only [hz_hsi, hk_hsi, hz_hsj, hk_hsj]; exact qk1.2) (by decide) rfl (Or.inl rfl)) ?_
  refine XS.go (s_aloadn rfl rfl rfl) ?_
  refine XS.go (s_iconst (v := 0) rfl rfl) ?_
  refine XS.go (s_putz rfl xf3_34 (show t < hz _ by simp only [hz_hsi, hk_hsi, hz_hsj, hk_hsj]; exact qk1.1) (by simp only [hz_hsi, hk_hsi, hz_hsj, hk_hsj]; exact qk1.2) (by decide) rfl (Or.inl rfl) (by decide)) ?_
  refine XS.go (s_aloadn rfl rfl rfl) ?_
  refine XS.go (s_lconst (v := 0) rfl rfl) ?_
  refine XS.go (s_putj rfl xf3_38 (show t < hz _ by simp only [hz_hsi, hk_hsi, hz_hsj, hk_hsj]; exact qk1.1) (by simp only [hz_hsi, hk_hsi, hz_hsj, hk_hsj]; exact qk1.2) (by decide) rfl (Or.inl rfl)) ?_
  cases hf
  exact XR.retv rfl rfl (fun hret => ⟨_, hret, ⟨rfl, rfl⟩, (by simp only [LY_si, LY_sj]; exact L0)⟩)
def b_d_addField_19 (h : XH) : Option (Option Nat × XH) := (some (none, h))
set_option maxRecDepth 20000 in
theorem kb_d_addField_19 {l : Launch} {G : XG} {d : Nat} {h : XH} {r : Option Nat × XH} (L0 : LY h) (hf : b_d_addField_19 h = some r) : XR l G xEX2_addField (d + 1) (19, [none, none, none, none, none, none], [], h) (fun C => ∃ v, xRet xEX2_addField C v ∧ (C.2.2.2 = r.2 ∧ v = some (va_rf r.1)) ∧ LY r.2) := by
  unfold b_d_addField_19 at hf
  refine XS.go (s_null rfl) ?_
  cases hf
  exact XR.reta (o := none) rfl rfl (fun hret => ⟨_, hret, ⟨rfl, rfl⟩, L0⟩)
def f_d_addField (t : Nat) (a0 : Int64) (a1 : Int64) (h : XH) : Option (Option Nat × XH) := (if t < hz h ∧ hk h t = 2 then (if (hi h t 3) < 0 then (b_d_addField_19 h) else (Option.bind (hr h t 2) fun b3 => (if b3 < hz h ∧ hk h b3 = 104 then (if (hi h t 3) < (nI (hn h b3)) then (if 0 ≤ (hi h t 3) ∧ (hi h t 3) < nI (hn h b3) ∧ (hn h b3) < 2 ^ 31 then (Option.bind (hr h b3 (Int32.toNatClampNeg (hi h t 3))) fun b8 => (if b8 < hz h ∧ hk h b8 = 3 then (Option.bind (f_f_restart b8 a0 a1 h) fun r11 => (if t < hz r11.2 ∧ hk r11.2 t = 2 then (some (some b8, (hsi r11.2 t 3 ((hi r11.2 t 3) + 1)))) else none)) else none)) else none) else (b_d_addField_19 h)) else none))) else none)
set_option maxRecDepth 20000 in
theorem kf_d_addField {l : Launch} {G : XG} {d : Nat} {t : Nat} {a0 : Int64} {a1 : Int64} {h : XH} {r : Option Nat × XH} (L0 : LY h) (hf : f_d_addField t a0 a1 h = some r) : XC l G xEX2_addField (d + 1) [.ref t, .long a0, .long a1] h (fun v h2 => (h2 = r.2 ∧ v = some (va_rf r.1)) ∧ LY r.2) := by
  refine XC.virt xvX2_addField (Nat.le_of_ble_eq_true rfl) ?_
  unfold f_d_addField at hf
  refine XR.norm (L3 := [some (.ref t), some (.long a0), none, some (.long a1), none, none]) rfl ?_
  refine XS.go (s_aloadn rfl rfl rfl) ?_
  replace hf := xi_none hf
  obtain ⟨qk1, hf⟩ := hf
  refine XS.go (s_getie rfl xf2_9 qk1.1 qk1.2 (by decide) rfl rfl) ?_
  refine r_if_lt (tgt := 19) rfl rfl (fun qc2 => ?_) (fun qc2 => ?_)
  · replace hf := xi_pos hf qc2
    exact XR.forget (L2 := [none, none, none, none, none, none]) trivial (kb_d_addField_19 L0 hf)
  · replace hf := xi_neg hf qc2
    refine XS.go (s_aloadn rfl rfl rfl) ?_
    refine XS.go (s_getie rfl xf2_9 qk1.1 qk1.2 (by decide) rfl rfl) ?_
    refine XS.go (s_aloadn rfl rfl rfl) ?_
    replace hf := xb_some hf
    obtain ⟨b3, qr4, hf⟩ := hf
    refine XS.go (s_getr rfl xf2_42 qk1.1 qk1.2 (by decide) rfl qr4) ?_
    replace hf := xi_none hf
    obtain ⟨qk5, hf⟩ := hf
    refine XS.go (s_alene (N := hn h b3) rfl qk5.1 qk5.2 rfl (by decide)) ?_
    refine r_icmp_lt (tgt := 21) rfl rfl (fun qc6 => ?_) (fun qc6 => ?_)
    · replace hf := xi_pos hf qc6
      refine XS.go (s_aloadn rfl rfl rfl) ?_
      refine XS.go (s_getr rfl xf2_42 qk1.1 qk1.2 (by decide) rfl qr4) ?_
      refine XS.go (s_aloadn rfl rfl rfl) ?_
      refine XS.go (s_getie rfl xf2_9 qk1.1 qk1.2 (by decide) rfl rfl) ?_
      replace hf := xi_none hf
      obtain ⟨qk7, hf⟩ := hf
      replace hf := xb_some hf
      obtain ⟨b8, qr9, hf⟩ := hf
      refine XS.go (s_aald104e rfl qk5.1 qk5.2 (inLit (N := hn h b3) rfl qk7.1 qk7.2.1 qk7.2.2) qr9) ?_
      refine XS.go (XS.lcl (L3 := [some (.ref t), some (.long a0), none, some (.long a1), none, some (.ref b8)]) (s_astore rfl (Nat.le_of_ble_eq_true rfl)) rfl) ?_
      refine XS.go (s_aload rfl rfl) ?_
      refine XS.go (s_lloadn rfl rfl rfl) ?_
      refine XS.go (s_lloadn rfl rfl rfl) ?_
      replace hf := xi_none hf
      obtain ⟨qk10, hf⟩ := hf
      replace hf := xb_some hf
      obtain ⟨r11, e12, hf⟩ := hf
      refine r_callv rfl xvX3_restart xm2_56 (kf_f_restart (d := d) L0 e12) qk10.1 qk10.2 (by decide) rfl rfl (dl0 (by decide)) (by decide) (Nat.le_of_ble_eq_true rfl) ?_
      rintro _ _ ⟨⟨rfl, rfl⟩, L13⟩
      refine XS.go (s_aloadn rfl rfl rfl) ?_
      refine XS.go (s_dup rfl rfl) ?_
      replace hf := xi_none hf
      obtain ⟨qk14, hf⟩ := hf
      refine XS.go (s_getie rfl xf2_9 qk14.1 qk14.2 (by decide) rfl rfl) ?_
      refine XS.go (s_iconst (v := 1) rfl rfl) ?_
      refine XS.go (s_iadd rfl) ?_
      refine XS.go (s_puti rfl xf2_9 qk14.1 qk14.2 (by decide) rfl (Or.inl rfl)) ?_
      refine XS.go (s_aload rfl rfl) ?_
      cases hf
      exact XR.reta (o := (some b8)) rfl rfl (fun hret => ⟨_, hret, ⟨rfl, rfl⟩, (by simp only [LY_si, LY_sj]; exact L13)⟩)
    · replace hf := xi_neg hf qc6
      exact XR.forget (L2 := [none, none, none, none, none, none]) trivial (kb_d_addField_19 L0 hf)
def f_d_addLeaf (t : Nat) (a0 : Int32) (a1 : Int32) (h : XH) : Option (Unit × XH) := (if t < hz h ∧ hk h t = 2 then (if (hi h t 11) < 0 then (some ((), h)) else (Option.bind (hr h t 9) fun b3 => (if b3 < hz h ∧ hk h b3 = 100 then (if (nI (hn h b3)) ≤ (hi h t 11) then (some ((), h)) else (Option.bind (hr h t 10) fun b7 => (if b7 < hz h ∧ hk h b7 = 100 then (if (nI (hn h b7)) ≤ (hi h t 11) then (some ((), h)) else (if 0 ≤ (hi h t 11) ∧ (hi h t 11) < nI (hn h b3) ∧ (hn h b3) < 2 ^ 31 then (if 0 ≤ (hi (hsi h b3 (Int32.toNatClampNeg (hi h t 11)) a0) t 11) ∧ (hi (hsi h b3 (Int32.toNatClampNeg (hi h t 11)) a0) t 11) < nI (hn h b7) ∧ (hn h b7) < 2 ^ 31 then (some ((), (hsi (hsi (hsi h b3 (Int32.toNatClampNeg (hi h t 11)) a0) b7 (Int32.toNatClampNeg (hi (hsi h b3 (Int32.toNatClampNeg (hi h t 11)) a0) t 11)) a1) t 11 ((hi (hsi (hsi h b3 (Int32.toNatClampNeg (hi h t 11)) a0) b7 (Int32.toNatClampNeg (hi (hsi h b3 (Int32.toNatClampNeg (hi h t 11)) a0) t 11)) a1) t 11) + 1)))) else none) else none)) else none))) else none))) else none)
set_option maxRecDepth 20000 in
theorem kf_d_addLeaf {l : Launch} {G : XG} {d : Nat} {t : Nat} {a0 : Int32} {a1 : Int32} {h : XH} {r : Unit × XH} (L0 : LY h) (hf : f_d_addLeaf t a0 a1 h = some r) : XC l G xEX2_addLeaf d [.ref t, .int a0, .int a1] h (fun v h2 => (h2 = r.2 ∧ v = none) ∧ LY r.2) := by
  refine XC.virt xvX2_addLeaf (Nat.le_of_ble_eq_true rfl) ?_
  unfold f_d_addLeaf at hf
  refine XR.norm (L3 := [some (.ref t), some (.int a0), some (.int a1)]) rfl ?_
  refine XS.go (s_aloadn rfl rfl rfl) ?_
  replace hf := xi_none hf
  obtain ⟨qk1, hf⟩ := hf
  refine XS.go (s_getie rfl xf2_31 qk1.1 qk1.2 (by decide) rfl rfl) ?_
  refine r_if_lt (tgt := 61) rfl rfl (fun qc2 => ?_) (fun qc2 => ?_)
  · replace hf := xi_pos hf qc2
    cases hf
    exact XR.retv rfl rfl (fun hret => ⟨_, hret, ⟨rfl, rfl⟩, L0⟩)
  · replace hf := xi_neg hf qc2
    refine XS.go (s_aloadn rfl rfl rfl) ?_
    refine XS.go (s_getie rfl xf2_31 qk1.1 qk1.2 (by decide) rfl rfl) ?_
    refine XS.go (s_aloadn rfl rfl rfl) ?_
    replace hf := xb_some hf
    obtain ⟨b3, qr4, hf⟩ := hf
    refine XS.go (s_getr rfl xf2_47 qk1.1 qk1.2 (by decide) rfl qr4) ?_
    replace hf := xi_none hf
    obtain ⟨qk5, hf⟩ := hf
    refine XS.go (s_alene (N := hn h b3) rfl qk5.1 qk5.2 rfl (by decide)) ?_
    refine r_icmp_ge (tgt := 61) rfl rfl (fun qc6 => ?_) (fun qc6 => ?_)
    · replace hf := xi_pos hf qc6
      cases hf
      exact XR.retv rfl rfl (fun hret => ⟨_, hret, ⟨rfl, rfl⟩, L0⟩)
    · replace hf := xi_neg hf qc6
      refine XS.go (s_aloadn rfl rfl rfl) ?_
      refine XS.go (s_getie rfl xf2_31 qk1.1 qk1.2 (by decide) rfl rfl) ?_
      refine XS.go (s_aloadn rfl rfl rfl) ?_
      replace hf := xb_some hf
      obtain ⟨b7, qr8, hf⟩ := hf
      refine XS.go (s_getr rfl xf2_51 qk1.1 qk1.2 (by decide) rfl qr8) ?_
      replace hf := xi_none hf
      obtain ⟨qk9, hf⟩ := hf
      refine XS.go (s_alene (N := hn h b7) rfl qk9.1 qk9.2 rfl (by decide)) ?_
      refine r_icmp_ge (tgt := 61) rfl rfl (fun qc10 => ?_) (fun qc10 => ?_)
      · replace hf := xi_pos hf qc10
        cases hf
        exact XR.retv rfl rfl (fun hret => ⟨_, hret, ⟨rfl, rfl⟩, L0⟩)
      · replace hf := xi_neg hf qc10
        refine XS.go (s_aloadn rfl rfl rfl) ?_
        refine XS.go (s_getr rfl xf2_47 qk1.1 qk1.2 (by decide) rfl qr4) ?_
        refine XS.go (s_aloadn rfl rfl rfl) ?_
        refine XS.go (s_getie rfl xf2_31 qk1.1 qk1.2 (by decide) rfl rfl) ?_
        refine XS.go (s_iloadn rfl rfl rfl) ?_
        replace hf := xi_none hf
        obtain ⟨qk11, hf⟩ := hf
        refine XS.go (s_iast rfl qk5.1 qk5.2 (inLit (N := hn h b3) rfl qk11.1 qk11.2.1 qk11.2.2)) ?_
        refine XS.go (s_aloadn rfl rfl rfl) ?_
        refine XS.go (s_getr rfl xf2_51 (show t < hz _ by simp only [hz_hsi, hk_hsi, hz_hsj, hk_hsj]; exact qk1.1) (by simp only [hz_hsi, hk_hsi, hz_hsj, hk_hsj]; exact qk1.2) (by decide) rfl (by simp only [hr_hsi, hr_hsj]; exact qr8)) ?_
        refine XS.go (s_aloadn rfl rfl rfl) ?_
        refine XS.go (s_getie rfl xf2_31 (show t < hz _ by simp only [hz_hsi, hk_hsi, hz_hsj, hk_hsj]; exact qk1.1) (by simp only [hz_hsi, hk_hsi, hz_hsj, hk_hsj]; exact qk1.2) (by decide) rfl rfl) ?_
        refine XS.go (s_iloadn rfl rfl rfl) ?_
        replace hf := xi_none hf
        obtain ⟨qk12, hf⟩ := hf
        refine XS.go (s_iast rfl (show b7 < hz _ by simp only [hz_hsi, hk_hsi, hz_hsj, hk_hsj]; exact qk9.1) (by simp only [hz_hsi, hk_hsi, hz_hsj, hk_hsj]; exact qk9.2) (inLit (N := hn h b7) (by simp only [hn_hsi, hn_hsj]) qk12.1 qk12.2.1 qk12.2.2)) ?_
        refine XS.go (s_aloadn rfl rfl rfl) ?_
        refine XS.go (s_dup rfl rfl) ?_
        refine XS.go (s_getie rfl xf2_31 (show t < hz _ by simp only [hz_hsi, hk_hsi, hz_hsj, hk_hsj]; exact qk1.1) (by simp only [hz_hsi, hk_hsi, hz_hsj, hk_hsj]; exact qk1.2) (by decide) rfl rfl) ?_
        refine XS.go (s_iconst (v := 1) rfl rfl) ?_
        refine XS.go (s_iadd rfl) ?_
        refine XS.go (s_puti rfl xf2_31 (show t < hz _ by simp only [hz_hsi, hk_hsi, hz_hsj, hk_hsj]; exact qk1.1) (by simp only [hz_hsi, hk_hsi, hz_hsj, hk_hsj]; exact qk1.2) (by decide) rfl (Or.inl rfl)) ?_
        cases hf
        exact XR.retv rfl rfl (fun hret => ⟨_, hret, ⟨rfl, rfl⟩, (by simp only [LY_si, LY_sj]; exact L0)⟩)
def s_d_addLeavesOf_2 (K2 : Nat → Nat → Int32 → Int32 → XH → Option (Unit × XH)) (x0 : Nat) (x1 : Nat) (x2 : Int32) (x3 : Int32) (h : XH) : Option (Unit × XH) := (if x1 < hz h ∧ hk h x1 = 2 then (if (hi h x1 11) ≤ x3 then (some ((), h)) else (Option.bind (f_d_leafScalar x1 x3 h) fun r3 => (if x1 < hz r3.2 ∧ hk r3.2 x1 = 2 then (Option.bind (f_d_leafPlace x1 x3 r3.2) fun r7 => (if x0 < hz r7.2 ∧ hk r7.2 x0 = 2 then (Option.bind (f_d_addLeaf x0 r3.1 (x2 + r7.1) r7.2) fun r11 => (K2 x0 x1 x2 (x3 + 1) r11.2)) else none)) else none))) else none)
set_option maxRecDepth 20000 in
theorem ks_d_addLeavesOf_2 {l : Launch} {G : XG} {d : Nat} {K2 : Nat → Nat → Int32 → Int32 → XH → Option (Unit × XH)} {x0 : Nat} {x1 : Nat} {x2 : Int32} {x3 : Int32} {h : XH} {r : Unit × XH} (hK2 : ∀ (x0 : Nat) (x1 : Nat) (x2 : Int32) (x3 : Int32) (h : XH), LY h → K2 x0 x1 x2 x3 h = some r → XR l G xEX2_addLeavesOf (d + 1) (2, [some (.ref x0), some (.ref x1), some (.int x2), some (.int x3)], [], h) (fun C => ∃ v, xRet xEX2_addLeavesOf C v ∧ (C.2.2.2 = r.2 ∧ v = none) ∧ LY r.2)) (L0 : LY h) (hf : s_d_addLeavesOf_2 K2 x0 x1 x2 x3 h = some r) : XR l G xEX2_addLeavesOf (d + 1) (2, [some (.ref x0), some (.ref x1), some (.int x2), some (.int x3)], [], h) (fun C => ∃ v, xRet xEX2_addLeavesOf C v ∧ (C.2.2.2 = r.2 ∧ v = none) ∧ LY r.2) := by
  unfold s_d_addLeavesOf_2 at hf
  refine XS.go (s_iloadn rfl rfl rfl) ?_
  refine XS.go (s_aloadn rfl rfl rfl) ?_
  replace hf := xi_none hf
  obtain ⟨qk1, hf⟩ := hf
  refine XS.go (s_getie rfl xf2_31 qk1.1 qk1.2 (by decide) rfl rfl) ?_
  refine r_icmp_ge (tgt := 32) rfl rfl (fun qc2 => ?_) (fun qc2 => ?_)
  · replace hf := xi_pos hf qc2
    cases hf
    exact XR.retv rfl rfl (fun hret => ⟨_, hret, ⟨rfl, rfl⟩, L0⟩)
  · replace hf := xi_neg hf qc2
    refine XS.go (s_aloadn rfl rfl rfl) ?_
    refine XS.go (s_aloadn rfl rfl rfl) ?_
    refine XS.go (s_iloadn rfl rfl rfl) ?_
    replace hf := xb_some hf
    obtain ⟨r3, e4, hf⟩ := hf
    refine r_callv rfl xvX2_leafScalar xm2_60 (kf_d_leafScalar (d := d) L0 e4) qk1.1 qk1.2 (by decide) rfl rfl (dl0 (by decide)) (by decide) (Nat.le_of_ble_eq_true rfl) ?_
    rintro _ _ ⟨⟨rfl, rfl⟩, L5⟩
    refine XS.go (s_iloadn rfl rfl rfl) ?_
    refine XS.go (s_aloadn rfl rfl rfl) ?_
    refine XS.go (s_iloadn rfl rfl rfl) ?_
    replace hf := xi_none hf
    obtain ⟨qk6, hf⟩ := hf
    replace hf := xb_some hf
    obtain ⟨r7, e8, hf⟩ := hf
    refine r_callv rfl xvX2_leafPlace xm2_64 (kf_d_leafPlace (d := d) L5 e8) qk6.1 qk6.2 (by decide) rfl rfl (dl0 (by decide)) (by decide) (Nat.le_of_ble_eq_true rfl) ?_
    rintro _ _ ⟨⟨rfl, rfl⟩, L9⟩
    refine XS.go (s_iadd rfl) ?_
    replace hf := xi_none hf
    obtain ⟨qk10, hf⟩ := hf
    replace hf := xb_some hf
    obtain ⟨r11, e12, hf⟩ := hf
    refine r_callv rfl xvX2_addLeaf xm2_67 (kf_d_addLeaf (d := d) L9 e12) qk10.1 qk10.2 (by decide) rfl rfl (dl0 (by decide)) (by decide) (Nat.le_of_ble_eq_true rfl) ?_
    rintro _ _ ⟨⟨rfl, rfl⟩, L13⟩
    refine XS.go (XS.lcl (L3 := [some (.ref x0), some (.ref x1), some (.int x2), some (.int (x3 + 1))]) (s_inc rfl rfl (Nat.le_of_ble_eq_true rfl)) rfl) ?_
    refine XS.go (s_goto (tgt := 2) rfl rfl) ?_
    exact XR.forget (L2 := [some (.ref x0), some (.ref x1), some (.int x2), some (.int (x3 + 1))]) ⟨rfl, ⟨rfl, ⟨rfl, ⟨rfl, trivial⟩⟩⟩⟩ (hK2 x0 x1 x2 (x3 + 1) _ L13 hf)
def b_d_addLeavesOf_2 : Nat → Nat → Nat → Int32 → Int32 → XH → Option (Unit × XH)
  | 0, _, _, _, _, _ => none
  | n + 1, x0, x1, x2, x3, h => s_d_addLeavesOf_2 (b_d_addLeavesOf_2 n) x0 x1 x2 x3 h
theorem kb_d_addLeavesOf_2 {l : Launch} {G : XG} {d : Nat} {n : Nat} {x0 : Nat} {x1 : Nat} {x2 : Int32} {x3 : Int32} {h : XH} {r : Unit × XH} (L0 : LY h) (hf : b_d_addLeavesOf_2 n x0 x1 x2 x3 h = some r) : XR l G xEX2_addLeavesOf (d + 1) (2, [some (.ref x0), some (.ref x1), some (.int x2), some (.int x3)], [], h) (fun C => ∃ v, xRet xEX2_addLeavesOf C v ∧ (C.2.2.2 = r.2 ∧ v = none) ∧ LY r.2) := by
  induction n generalizing x0 x1 x2 x3 h with
  | zero => cases hf
  | succ n ih => exact ks_d_addLeavesOf_2 (fun x0 x1 x2 x3 h L0 hf => ih (h := h) (x0 := x0) (x1 := x1) (x2 := x2) (x3 := x3) L0 hf) L0 hf
def f_d_addLeavesOf (t : Nat) (a0 : Nat) (a1 : Int32) (h : XH) : Option (Unit × XH) := (b_d_addLeavesOf_2 100000 t a0 a1 0 h)
set_option maxRecDepth 20000 in
theorem kf_d_addLeavesOf {l : Launch} {G : XG} {d : Nat} {t : Nat} {a0 : Nat} {a1 : Int32} {h : XH} {r : Unit × XH} (L0 : LY h) (hf : f_d_addLeavesOf t a0 a1 h = some r) : XC l G xEX2_addLeavesOf (d + 1) [.ref t, .ref a0, .int a1] h (fun v h2 => (h2 = r.2 ∧ v = none) ∧ LY r.2) := by
  refine XC.virt xvX2_addLeavesOf (Nat.le_of_ble_eq_true rfl) ?_
  unfold f_d_addLeavesOf at hf
  refine XR.norm (L3 := [some (.ref t), some (.ref a0), some (.int a1), none]) rfl ?_
  refine XS.go (s_iconst (v := 0) rfl rfl) ?_
  refine XS.go (XS.lcl (L3 := [some (.ref t), some (.ref a0), some (.int a1), some (.int 0)]) (s_istoren rfl rfl (Nat.le_of_ble_eq_true rfl)) rfl) ?_
  exact XR.forget (L2 := [some (.ref t), some (.ref a0), some (.int a1), some (.int 0)]) ⟨rfl, ⟨rfl, ⟨rfl, ⟨rfl, trivial⟩⟩⟩⟩ (kb_d_addLeavesOf_2 L0 hf)
def b_d_numberSlots_60 (K7 : Nat → Int32 → XH → Option (Unit × XH)) (x0 : Nat) (x1 : Int32) (y0 : Nat) (y1 : Int32) (y2 : Int32) (h : XH) : Option (Unit × XH) := (if y0 < hz h ∧ hk h y0 = 2 then (K7 x0 (x1 + 1) (hsi h y0 8 (y1 + y2))) else none)
set_option maxRecDepth 20000 in
theorem kb_d_numberSlots_60 {l : Launch} {G : XG} {d : Nat} {K7 : Nat → Int32 → XH → Option (Unit × XH)} {x0 : Nat} {x1 : Int32} {y0 : Nat} {y1 : Int32} {y2 : Int32} {h : XH} {r : Unit × XH} (hK7 : ∀ (x0 : Nat) (x1 : Int32) (h : XH), LY h → K7 x0 x1 h = some r → XR l G xEX2_numberSlots d (7, [some (.ref x0), some (.int x1)], [], h) (fun C => ∃ v, xRet xEX2_numberSlots C v ∧ (C.2.2.2 = r.2 ∧ v = none) ∧ LY r.2)) (L0 : LY h) (hf : b_d_numberSlots_60 K7 x0 x1 y0 y1 y2 h = some r) : XR l G xEX2_numberSlots d (60, [some (.ref x0), some (.int x1)], [(.int y2), (.int y1), (.ref y0)], h) (fun C => ∃ v, xRet xEX2_numberSlots C v ∧ (C.2.2.2 = r.2 ∧ v = none) ∧ LY r.2) := by
  unfold b_d_numberSlots_60 at hf
  refine XS.go (s_iadd rfl) ?_
  replace hf := xi_none hf
  obtain ⟨qk1, hf⟩ := hf
  refine XS.go (s_puti rfl xf2_28 qk1.1 qk1.2 (by decide) rfl (Or.inl rfl)) ?_
  refine XS.go (XS.lcl (L3 := [some (.ref x0), some (.int (x1 + 1))]) (s_inc rfl rfl (Nat.le_of_ble_eq_true rfl)) rfl) ?_
  refine XS.go (s_goto (tgt := 7) rfl rfl) ?_
  exact XR.forget (L2 := [some (.ref x0), some (.int (x1 + 1))]) ⟨rfl, ⟨rfl, trivial⟩⟩ (hK7 x0 (x1 + 1) _ (by simp only [LY_si, LY_sj]; exact L0) hf)
def s_d_numberSlots_7 (K7 : Nat → Int32 → XH → Option (Unit × XH)) (x0 : Nat) (x1 : Int32) (h : XH) : Option (Unit × XH) := (if x0 < hz h ∧ hk h x0 = 2 then (if (hi h x0 3) ≤ x1 then (some ((), h)) else (Option.bind (hr h x0 2) fun b4 => (if b4 < hz h ∧ hk h b4 = 104 then (if (nI (hn h b4)) ≤ x1 then (some ((), h)) else (if 0 ≤ x1 ∧ x1 < nI (hn h b4) ∧ (hn h b4) < 2 ^ 31 then (Option.bind (hr h b4 (Int32.toNatClampNeg x1)) fun b9 => (if b9 < hz h ∧ hk h b9 = 3 then (if ¬ (hi h b9 3) = 4 then (b_d_numberSlots_60 K7 x0 x1 x0 (hi h x0 8) 1 (hsi h b9 6 (hi h x0 8))) else (b_d_numberSlots_60 K7 x0 x1 x0 (hi h x0 8) 2 (hsi h b9 6 (hi h x0 8)))) else none)) else none)) else none))) else none)
set_option maxRecDepth 20000 in
theorem ks_d_numberSlots_7 {l : Launch} {G : XG} {d : Nat} {K7 : Nat → Int32 → XH → Option (Unit × XH)} {x0 : Nat} {x1 : Int32} {h : XH} {r : Unit × XH} (hK7 : ∀ (x0 : Nat) (x1 : Int32) (h : XH), LY h → K7 x0 x1 h = some r → XR l G xEX2_numberSlots d (7, [some (.ref x0), some (.int x1)], [], h) (fun C => ∃ v, xRet xEX2_numberSlots C v ∧ (C.2.2.2 = r.2 ∧ v = none) ∧ LY r.2)) (L0 : LY h) (hf : s_d_numberSlots_7 K7 x0 x1 h = some r) : XR l G xEX2_numberSlots d (7, [some (.ref x0), some (.int x1)], [], h) (fun C => ∃ v, xRet xEX2_numberSlots C v ∧ (C.2.2.2 = r.2 ∧ v = none) ∧ LY r.2) := by
  unfold s_d_numberSlots_7 at hf
  refine XS.go (s_iloadn rfl rfl rfl) ?_
  refine XS.go (s_aloadn rfl rfl rfl) ?_
  replace hf := xi_none hf
  obtain ⟨qk2, hf⟩ := hf
  refine XS.go (s_getie rfl xf2_9 qk2.1 qk2.2 (by decide) rfl rfl) ?_
  refine r_icmp_ge (tgt := 70) rfl rfl (fun qc3 => ?_) (fun qc3 => ?_)
  · replace hf := xi_pos hf qc3
    cases hf
    exact XR.retv rfl rfl (fun hret => ⟨_, hret, ⟨rfl, rfl⟩, L0⟩)
  · replace hf := xi_neg hf qc3
    refine XS.go (s_iloadn rfl rfl rfl) ?_
    refine XS.go (s_aloadn rfl rfl rfl) ?_
    replace hf := xb_some hf
    obtain ⟨b4, qr5, hf⟩ := hf
    refine XS.go (s_getr rfl xf2_42 qk2.1 qk2.2 (by decide) rfl qr5) ?_
    replace hf := xi_none hf
    obtain ⟨qk6, hf⟩ := hf
    refine XS.go (s_alene (N := hn h b4) rfl qk6.1 qk6.2 rfl (by decide)) ?_
    refine r_icmp_ge (tgt := 70) rfl rfl (fun qc7 => ?_) (fun qc7 => ?_)
    · replace hf := xi_pos hf qc7
      cases hf
      exact XR.retv rfl rfl (fun hret => ⟨_, hret, ⟨rfl, rfl⟩, L0⟩)
    · replace hf := xi_neg hf qc7
      refine XS.go (s_aloadn rfl rfl rfl) ?_
      refine XS.go (s_getr rfl xf2_42 qk2.1 qk2.2 (by decide) rfl qr5) ?_
      refine XS.go (s_iloadn rfl rfl rfl) ?_
      replace hf := xi_none hf
      obtain ⟨qk8, hf⟩ := hf
      replace hf := xb_some hf
      obtain ⟨b9, qr10, hf⟩ := hf
      refine XS.go (s_aald104e rfl qk6.1 qk6.2 (inLit (N := hn h b4) rfl qk8.1 qk8.2.1 qk8.2.2) qr10) ?_
      refine XS.go (s_aloadn rfl rfl rfl) ?_
      refine XS.go (s_getie rfl xf2_28 qk2.1 qk2.2 (by decide) rfl rfl) ?_
      replace hf := xi_none hf
      obtain ⟨qk11, hf⟩ := hf
      refine XS.go (s_puti rfl xf2_71 qk11.1 qk11.2 (by decide) rfl (Or.inl rfl)) ?_
      refine XS.go (s_aloadn rfl rfl rfl) ?_
      refine XS.go (s_dup rfl rfl) ?_
      refine XS.go (s_getie rfl xf2_28 (show x0 < hz _ by simp only [hz_hsi, hk_hsi, hz_hsj, hk_hsj]; exact qk2.1) (by simp only [hz_hsi, hk_hsi, hz_hsj, hk_hsj]; exact qk2.2) (by decide) rfl (hi_hsi_nk (by decide))) ?_
      refine XS.go (s_aloadn rfl rfl rfl) ?_
      refine XS.go (s_getr rfl xf2_42 (show x0 < hz _ by simp only [hz_hsi, hk_hsi, hz_hsj, hk_hsj]; exact qk2.1) (by simp only [hz_hsi, hk_hsi, hz_hsj, hk_hsj]; exact qk2.2) (by decide) rfl (by simp only [hr_hsi, hr_hsj]; exact qr5)) ?_
      refine XS.go (s_iloadn rfl rfl rfl) ?_
      refine XS.go (s_aald104e rfl (show b4 < hz _ by simp only [hz_hsi, hk_hsi, hz_hsj, hk_hsj]; exact qk6.1) (by simp only [hz_hsi, hk_hsi, hz_hsj, hk_hsj]; exact qk6.2) (inLit (N := hn h b4) (by simp only [hn_hsi, hn_hsj]) qk8.1 qk8.2.1 qk8.2.2) (by simp only [hr_hsi, hr_hsj]; exact qr10)) ?_
      refine XS.go (s_getie rfl xf2_74 (show b9 < hz _ by simp only [hz_hsi, hk_hsi, hz_hsj, hk_hsj]; exact qk11.1) (by simp only [hz_hsi, hk_hsi, hz_hsj, hk_hsj]; exact qk11.2) (by decide) rfl (hi_hsi_nk (by decide))) ?_
      refine XS.go (s_iconst (v := 4) rfl rfl) ?_
      refine r_icmp_ne (tgt := 59) rfl rfl (fun qc12 => ?_) (fun qc12 => ?_)
      · replace hf := xi_pos hf qc12
        refine XS.go (s_iconst (v := 1) rfl rfl) ?_
        exact XR.forget (L2 := [some (.ref x0), some (.int x1)]) ⟨rfl, ⟨rfl, trivial⟩⟩ (kb_d_numberSlots_60 hK7 (by simp only [LY_si, LY_sj]; exact L0) hf)
      · replace hf := xi_neg hf qc12
        refine XS.go (s_iconst (v := 2) rfl rfl) ?_
        refine XS.go (s_goto (tgt := 60) rfl rfl) ?_
        exact XR.forget (L2 := [some (.ref x0), some (.int x1)]) ⟨rfl, ⟨rfl, trivial⟩⟩ (kb_d_numberSlots_60 hK7 (by simp only [LY_si, LY_sj]; exact L0) hf)
def b_d_numberSlots_7 : Nat → Nat → Int32 → XH → Option (Unit × XH)
  | 0, _, _, _ => none
  | n + 1, x0, x1, h => s_d_numberSlots_7 (b_d_numberSlots_7 n) x0 x1 h
theorem kb_d_numberSlots_7 {l : Launch} {G : XG} {d : Nat} {n : Nat} {x0 : Nat} {x1 : Int32} {h : XH} {r : Unit × XH} (L0 : LY h) (hf : b_d_numberSlots_7 n x0 x1 h = some r) : XR l G xEX2_numberSlots d (7, [some (.ref x0), some (.int x1)], [], h) (fun C => ∃ v, xRet xEX2_numberSlots C v ∧ (C.2.2.2 = r.2 ∧ v = none) ∧ LY r.2) := by
  induction n generalizing x0 x1 h with
  | zero => cases hf
  | succ n ih => exact ks_d_numberSlots_7 (fun x0 x1 h L0 hf => ih (h := h) (x0 := x0) (x1 := x1) L0 hf) L0 hf
def f_d_numberSlots (t : Nat) (h : XH) : Option (Unit × XH) := (if t < hz h ∧ hk h t = 2 then (b_d_numberSlots_7 100000 t 0 (hsi h t 8 0)) else none)
set_option maxRecDepth 20000 in
theorem kf_d_numberSlots {l : Launch} {G : XG} {d : Nat} {t : Nat} {h : XH} {r : Unit × XH} (L0 : LY h) (hf : f_d_numberSlots t h = some r) : XC l G xEX2_numberSlots d [.ref t] h (fun v h2 => (h2 = r.2 ∧ v = none) ∧ LY r.2) := by
  refine XC.virt xvX2_numberSlots (Nat.le_of_ble_eq_true rfl) ?_
  unfold f_d_numberSlots at hf
  refine XR.norm (L3 := [some (.ref t), none]) rfl ?_
  refine XS.go (s_aloadn rfl rfl rfl) ?_
  refine XS.go (s_iconst (v := 0) rfl rfl) ?_
  replace hf := xi_none hf
  obtain ⟨qk13, hf⟩ := hf
  refine XS.go (s_puti rfl xf2_28 qk13.1 qk13.2 (by decide) rfl (Or.inl rfl)) ?_
  refine XS.go (s_iconst (v := 0) rfl rfl) ?_
  refine XS.go (XS.lcl (L3 := [some (.ref t), some (.int 0)]) (s_istoren rfl rfl (Nat.le_of_ble_eq_true rfl)) rfl) ?_
  exact XR.forget (L2 := [some (.ref t), some (.int 0)]) ⟨rfl, ⟨rfl, trivial⟩⟩ (kb_d_numberSlots_7 (by simp only [LY_si, LY_sj]; exact L0) hf)
def b_g_add_19 (h : XH) : Option (Option Nat × XH) := (some (none, h))
set_option maxRecDepth 20000 in
theorem kb_g_add_19 {l : Launch} {G : XG} {d : Nat} {h : XH} {r : Option Nat × XH} (L0 : LY h) (hf : b_g_add_19 h = some r) : XR l G xEX4_add (d + 1) (19, [none, none, none, none, none, none], [], h) (fun C => ∃ v, xRet xEX4_add C v ∧ (C.2.2.2 = r.2 ∧ v = some (va_rf r.1)) ∧ LY r.2) := by
  unfold b_g_add_19 at hf
  refine XS.go (s_null rfl) ?_
  cases hf
  exact XR.reta (o := none) rfl rfl (fun hret => ⟨_, hret, ⟨rfl, rfl⟩, L0⟩)
def f_g_add (t : Nat) (a0 : Int64) (a1 : Int64) (h : XH) : Option (Option Nat × XH) := (if t < hz h ∧ hk h t = 4 then (if (hi h t 1) < 0 then (b_g_add_19 h) else (Option.bind (hr h t 0) fun b3 => (if b3 < hz h ∧ hk h b3 = 105 then (if (hi h t 1) < (nI (hn h b3)) then (if 0 ≤ (hi h t 1) ∧ (hi h t 1) < nI (hn h b3) ∧ (hn h b3) < 2 ^ 31 then (Option.bind (hr h b3 (Int32.toNatClampNeg (hi h t 1))) fun b8 => (if b8 < hz h ∧ hk h b8 = 2 then (Option.bind (f_d_restart b8 a0 a1 h) fun r11 => (if t < hz r11.2 ∧ hk r11.2 t = 4 then (some (some b8, (hsi r11.2 t 1 ((hi r11.2 t 1) + 1)))) else none)) else none)) else none) else (b_g_add_19 h)) else none))) else none)
set_option maxRecDepth 20000 in
theorem kf_g_add {l : Launch} {G : XG} {d : Nat} {t : Nat} {a0 : Int64} {a1 : Int64} {h : XH} {r : Option Nat × XH} (L0 : LY h) (hf : f_g_add t a0 a1 h = some r) : XC l G xEX4_add (d + 1) [.ref t, .long a0, .long a1] h (fun v h2 => (h2 = r.2 ∧ v = some (va_rf r.1)) ∧ LY r.2) := by
  refine XC.virt xvX4_add (Nat.le_of_ble_eq_true rfl) ?_
  unfold f_g_add at hf
  refine XR.norm (L3 := [some (.ref t), some (.long a0), none, some (.long a1), none, none]) rfl ?_
  refine XS.go (s_aloadn rfl rfl rfl) ?_
  replace hf := xi_none hf
  obtain ⟨qk1, hf⟩ := hf
  refine XS.go (s_getie rfl xf4_7 qk1.1 qk1.2 (by decide) rfl rfl) ?_
  refine r_if_lt (tgt := 19) rfl rfl (fun qc2 => ?_) (fun qc2 => ?_)
  · replace hf := xi_pos hf qc2
    exact XR.forget (L2 := [none, none, none, none, none, none]) trivial (kb_g_add_19 L0 hf)
  · replace hf := xi_neg hf qc2
    refine XS.go (s_aloadn rfl rfl rfl) ?_
    refine XS.go (s_getie rfl xf4_7 qk1.1 qk1.2 (by decide) rfl rfl) ?_
    refine XS.go (s_aloadn rfl rfl rfl) ?_
    replace hf := xb_some hf
    obtain ⟨b3, qr4, hf⟩ := hf
    refine XS.go (s_getr rfl xf4_15 qk1.1 qk1.2 (by decide) rfl qr4) ?_
    replace hf := xi_none hf
    obtain ⟨qk5, hf⟩ := hf
    refine XS.go (s_alene (N := hn h b3) rfl qk5.1 qk5.2 rfl (by decide)) ?_
    refine r_icmp_lt (tgt := 21) rfl rfl (fun qc6 => ?_) (fun qc6 => ?_)
    · replace hf := xi_pos hf qc6
      refine XS.go (s_aloadn rfl rfl rfl) ?_
      refine XS.go (s_getr rfl xf4_15 qk1.1 qk1.2 (by decide) rfl qr4) ?_
      refine XS.go (s_aloadn rfl rfl rfl) ?_
      refine XS.go (s_getie rfl xf4_7 qk1.1 qk1.2 (by decide) rfl rfl) ?_
      replace hf := xi_none hf
      obtain ⟨qk7, hf⟩ := hf
      replace hf := xb_some hf
      obtain ⟨b8, qr9, hf⟩ := hf
      refine XS.go (s_aald105e rfl qk5.1 qk5.2 (inLit (N := hn h b3) rfl qk7.1 qk7.2.1 qk7.2.2) qr9) ?_
      refine XS.go (XS.lcl (L3 := [some (.ref t), some (.long a0), none, some (.long a1), none, some (.ref b8)]) (s_astore rfl (Nat.le_of_ble_eq_true rfl)) rfl) ?_
      refine XS.go (s_aload rfl rfl) ?_
      refine XS.go (s_lloadn rfl rfl rfl) ?_
      refine XS.go (s_lloadn rfl rfl rfl) ?_
      replace hf := xi_none hf
      obtain ⟨qk10, hf⟩ := hf
      replace hf := xb_some hf
      obtain ⟨r11, e12, hf⟩ := hf
      refine r_callv rfl xvX2_restart xm4_22 (kf_d_restart (d := d) L0 e12) qk10.1 qk10.2 (by decide) rfl rfl (dl0 (by decide)) (by decide) (Nat.le_of_ble_eq_true rfl) ?_
      rintro _ _ ⟨⟨rfl, rfl⟩, L13⟩
      refine XS.go (s_aloadn rfl rfl rfl) ?_
      refine XS.go (s_dup rfl rfl) ?_
      replace hf := xi_none hf
      obtain ⟨qk14, hf⟩ := hf
      refine XS.go (s_getie rfl xf4_7 qk14.1 qk14.2 (by decide) rfl rfl) ?_
      refine XS.go (s_iconst (v := 1) rfl rfl) ?_
      refine XS.go (s_iadd rfl) ?_
      refine XS.go (s_puti rfl xf4_7 qk14.1 qk14.2 (by decide) rfl (Or.inl rfl)) ?_
      refine XS.go (s_aload rfl rfl) ?_
      cases hf
      exact XR.reta (o := (some b8)) rfl rfl (fun hret => ⟨_, hret, ⟨rfl, rfl⟩, (by simp only [LY_si, LY_sj]; exact L13)⟩)
    · replace hf := xi_neg hf qc6
      exact XR.forget (L2 := [none, none, none, none, none, none]) trivial (kb_g_add_19 L0 hf)
def f_j_init (t : Nat) (a0 : Nat) (a1 : Nat) (a2 : Int32) (h : XH) : Option (Unit × XH) := (if t < hz h ∧ hk h t = 5 then (if 1317 ≤ t then (if t < hz (hsr (hsi (hsi (hsi h t 3 0) t 4 0) t 5 0) t 0 (some a0)) ∧ hk (hsr (hsi (hsi (hsi h t 3 0) t 4 0) t 5 0) t 0 (some a0)) t = 5 then (if 1317 ≤ t then (if t < hz (hsr (hsr (hsi (hsi (hsi h t 3 0) t 4 0) t 5 0) t 0 (some a0)) t 1 (some a1)) ∧ hk (hsr (hsr (hsi (hsi (hsi h t 3 0) t 4 0) t 5 0) t 0 (some a0)) t 1 (some a1)) t = 5 then (some ((), (hsi (hsr (hsr (hsi (hsi (hsi h t 3 0) t 4 0) t 5 0) t 0 (some a0)) t 1 (some a1)) t 2 a2))) else none) else none) else none) else none) else none)
set_option maxRecDepth 20000 in
theorem kf_j_init {l : Launch} {G : XG} {d : Nat} {t : Nat} {a0 : Nat} {a1 : Nat} {a2 : Int32} {h : XH} {r : Unit × XH} (L0 : LY h) (hf : f_j_init t a0 a1 a2 h = some r) : XC l G xEX5_init (d + 1) [.ref t, .ref a0, .ref a1, .int a2] h (fun v h2 => (h2 = r.2 ∧ v = none) ∧ LY r.2) := by
  refine XC.init xnX5_init (Nat.le_of_ble_eq_true rfl) ?_
  unfold f_j_init at hf
  refine XR.norm (L3 := [some (.ref t), some (.ref a0), some (.ref a1), some (.int a2)]) rfl ?_
  refine XS.go (s_aloadn rfl rfl rfl) ?_
  refine XS.go (s_objInit rfl (lg_3 180 rfl rfl) (lg_1 33 rfl rfl) (lg_1 34 rfl rfl) (dl1 (by decide)) (Nat.le_of_ble_eq_true rfl)) ?_
  refine XS.go (s_aloadn rfl rfl rfl) ?_
  refine XS.go (s_iconst (v := 0) rfl rfl) ?_
  replace hf := xi_none hf
  obtain ⟨qk1, hf⟩ := hf
  refine XS.go (s_puti rfl xf5_9 qk1.1 qk1.2 (by decide) rfl (Or.inl rfl)) ?_
  refine XS.go (s_aloadn rfl rfl rfl) ?_
  refine XS.go (s_iconst (v := 0) rfl rfl) ?_
  refine XS.go (s_puti rfl xf5_15 (show t < hz _ by simp only [hz_hsi, hk_hsi, hz_hsj, hk_hsj]; exact qk1.1) (by simp only [hz_hsi, hk_hsi, hz_hsj, hk_hsj]; exact qk1.2) (by decide) rfl (Or.inl rfl)) ?_
  refine XS.go (s_aloadn rfl rfl rfl) ?_
  refine XS.go (s_iconst (v := 0) rfl rfl) ?_
  refine XS.go (s_puti rfl xf5_18 (show t < hz _ by simp only [hz_hsi, hk_hsi, hz_hsj, hk_hsj]; exact qk1.1) (by simp only [hz_hsi, hk_hsi, hz_hsj, hk_hsj]; exact qk1.2) (by decide) rfl (Or.inl rfl)) ?_
  refine XS.go (s_aloadn rfl rfl rfl) ?_
  refine XS.go (s_aloadn rfl rfl rfl) ?_
  replace hf := xi_none hf
  obtain ⟨qk2, hf⟩ := hf
  have L3 : LY (hsr (hsi (hsi (hsi h t 3 0) t 4 0) t 5 0) t 0 (some a0)) := LY.srv (by simp only [LY_si, LY_sj]; exact L0) qk2
  refine XS.go (s_putr rfl xf5_21 (show t < hz _ by simp only [hz_hsi, hk_hsi, hz_hsj, hk_hsj]; exact qk1.1) (by simp only [hz_hsi, hk_hsi, hz_hsj, hk_hsj]; exact qk1.2) (by decide) rfl (Or.inr ⟨rfl, rfl⟩)) ?_
  refine XS.go (s_aloadn rfl rfl rfl) ?_
  refine XS.go (s_aloadn rfl rfl rfl) ?_
  replace hf := xi_none hf
  obtain ⟨qk4, hf⟩ := hf
  replace hf := xi_none hf
  obtain ⟨qk5, hf⟩ := hf
  have L6 : LY (hsr (hsr (hsi (hsi (hsi h t 3 0) t 4 0) t 5 0) t 0 (some a0)) t 1 (some a1)) := LY.srv L3 qk5
  refine XS.go (s_putr rfl xf5_25 qk4.1 qk4.2 (by decide) rfl (Or.inr ⟨rfl, rfl⟩)) ?_
  refine XS.go (s_aloadn rfl rfl rfl) ?_
  refine XS.go (s_iloadn rfl rfl rfl) ?_
  replace hf := xi_none hf
  obtain ⟨qk7, hf⟩ := hf
  refine XS.go (s_puti rfl xf5_29 qk7.1 qk7.2 (by decide) rfl (Or.inr ⟨rfl, rfl⟩)) ?_
  cases hf
  exact XR.retv rfl rfl (fun hret => ⟨_, hret, ⟨rfl, rfl⟩, (by simp only [LY_si, LY_sj]; exact L6)⟩)
def f_j_wrong (t : Nat) (a0 : Int32) (a1 : Int64) (h : XH) : Option (Int32 × XH) := (if t < hz h ∧ hk h t = 5 then (some (0, (hsi (hsi h t 4 a0) t 5 (Int64.toInt32 a1)))) else none)
set_option maxRecDepth 20000 in
theorem kf_j_wrong {l : Launch} {G : XG} {d : Nat} {t : Nat} {a0 : Int32} {a1 : Int64} {h : XH} {r : Int32 × XH} (L0 : LY h) (hf : f_j_wrong t a0 a1 h = some r) : XC l G xEX5_wrong d [.ref t, .int a0, .long a1] h (fun v h2 => (h2 = r.2 ∧ v = some (.int r.1)) ∧ LY r.2) := by
  refine XC.virt xvX5_wrong (Nat.le_of_ble_eq_true rfl) ?_
  unfold f_j_wrong at hf
  refine XR.norm (L3 := [some (.ref t), some (.int a0), some (.long a1), none]) rfl ?_
  refine XS.go (s_aloadn rfl rfl rfl) ?_
  refine XS.go (s_iloadn rfl rfl rfl) ?_
  replace hf := xi_none hf
  obtain ⟨qk1, hf⟩ := hf
  refine XS.go (s_puti rfl xf5_15 qk1.1 qk1.2 (by decide) rfl (Or.inl rfl)) ?_
  refine XS.go (s_aloadn rfl rfl rfl) ?_
  refine XS.go (s_lloadn rfl rfl rfl) ?_
  refine XS.go (s_l2i rfl) ?_
  refine XS.go (s_puti rfl xf5_18 (show t < hz _ by simp only [hz_hsi, hk_hsi, hz_hsj, hk_hsj]; exact qk1.1) (by simp only [hz_hsi, hk_hsi, hz_hsj, hk_hsj]; exact qk1.2) (by decide) rfl (Or.inl rfl)) ?_
  refine XS.go (s_iconst (v := 0) rfl rfl) ?_
  cases hf
  exact XR.retz rfl rfl (by decide) (fun hret => ⟨_, hret, ⟨rfl, rfl⟩, (by simp only [LY_si, LY_sj]; exact L0)⟩)
def b_j_isReference_62 (h : XH) : Option (Int32 × XH) := (some (1, h))
set_option maxRecDepth 20000 in
theorem kb_j_isReference_62 {l : Launch} {G : XG} {d : Nat} {h : XH} {r : Int32 × XH} (L0 : LY h) (hf : b_j_isReference_62 h = some r) : XR l G xEX5_isReference (d + 1) (62, [none, none, none, none], [], h) (fun C => ∃ v, xRet xEX5_isReference C v ∧ (C.2.2.2 = r.2 ∧ v = some (.int r.1)) ∧ LY r.2) := by
  unfold b_j_isReference_62 at hf
  refine XS.go (s_iconst (v := 1) rfl rfl) ?_
  refine XS.go (s_goto (tgt := 67) rfl rfl) ?_
  cases hf
  exact XR.retz rfl rfl (by decide) (fun hret => ⟨_, hret, ⟨rfl, rfl⟩, L0⟩)
def b_j_isReference_34 (x0 : Nat) (x1 : Int32) (h : XH) : Option (Int32 × XH) := (if x0 < hz h ∧ hk h x0 = 5 then (Option.bind (f_j_wrong x0 2 (Int32.toInt64 x1) h) fun r2 => (if r2.1 = 0 ∨ r2.1 = 1 then (some (r2.1, r2.2)) else none)) else none)
set_option maxRecDepth 20000 in
theorem kb_j_isReference_34 {l : Launch} {G : XG} {d : Nat} {x0 : Nat} {x1 : Int32} {h : XH} {r : Int32 × XH} (L0 : LY h) (hf : b_j_isReference_34 x0 x1 h = some r) : XR l G xEX5_isReference (d + 1) (34, [some (.ref x0), some (.int x1), none, none], [], h) (fun C => ∃ v, xRet xEX5_isReference C v ∧ (C.2.2.2 = r.2 ∧ v = some (.int r.1)) ∧ LY r.2) := by
  unfold b_j_isReference_34 at hf
  refine XS.go (s_aloadn rfl rfl rfl) ?_
  refine XS.go (s_iconst (v := 2) rfl rfl) ?_
  refine XS.go (s_iloadn rfl rfl rfl) ?_
  refine XS.go (s_i2l rfl) ?_
  replace hf := xi_none hf
  obtain ⟨qk1, hf⟩ := hf
  replace hf := xb_some hf
  obtain ⟨r2, e3, hf⟩ := hf
  refine r_callv rfl xvX5_wrong xm5_32 (kf_j_wrong (d := d) L0 e3) qk1.1 qk1.2 (by decide) rfl rfl (dl0 (by decide)) (by decide) (Nat.le_of_ble_eq_true rfl) ?_
  rintro _ _ ⟨⟨rfl, rfl⟩, L4⟩
  replace hf := xi_none hf
  obtain ⟨qk5, hf⟩ := hf
  cases hf
  exact XR.retz rfl rfl qk5 (fun hret => ⟨_, hret, ⟨rfl, rfl⟩, L4⟩)
def f_j_isReference (t : Nat) (a0 : Int32) (h : XH) : Option (Int32 × XH) := (if t < hz h ∧ hk h t = 5 then (Option.bind (hr h t 1) fun b7 => (if b7 < hz h ∧ hk h b7 = 1 then (Option.bind (f_b_number b7 a0 4 h) fun r10 => (if (lg_cmp ((Int32.toInt64 a0) + r10.1) (Int32.toInt64 a0)) = 0 then (b_j_isReference_34 t a0 r10.2) else (if t < hz r10.2 ∧ hk r10.2 t = 5 then (if (lg_cmp (((Int32.toInt64 a0) + r10.1) + (4 : Int64)) (Int32.toInt64 (hi r10.2 t 2))) ≤ 0 then (if (lg_cmp (((Int32.toInt64 a0) + r10.1) &&& (3 : Int64)) (0 : Int64)) = 0 then (b_j_isReference_62 r10.2) else (Option.bind (f_j_wrong t 3 (Int32.toInt64 a0) r10.2) fun r17 => (if r17.1 = 0 then (some (0, r17.2)) else (b_j_isReference_62 r17.2)))) else (b_j_isReference_34 t a0 r10.2)) else none))) else none)) else none)
set_option maxRecDepth 20000 in
theorem kf_j_isReference {l : Launch} {G : XG} {d : Nat} {t : Nat} {a0 : Int32} {h : XH} {r : Int32 × XH} (L0 : LY h) (hf : f_j_isReference t a0 h = some r) : XC l G xEX5_isReference (d + 1) [.ref t, .int a0] h (fun v h2 => (h2 = r.2 ∧ v = some (.int r.1)) ∧ LY r.2) := by
  refine XC.virt xvX5_isReference (Nat.le_of_ble_eq_true rfl) ?_
  unfold f_j_isReference at hf
  refine XR.norm (L3 := [some (.ref t), some (.int a0), none, none]) rfl ?_
  refine XS.go (s_iloadn rfl rfl rfl) ?_
  refine XS.go (s_i2l rfl) ?_
  refine XS.go (s_aloadn rfl rfl rfl) ?_
  replace hf := xi_none hf
  obtain ⟨qk6, hf⟩ := hf
  replace hf := xb_some hf
  obtain ⟨b7, qr8, hf⟩ := hf
  refine XS.go (s_getr rfl xf5_25 qk6.1 qk6.2 (by decide) rfl qr8) ?_
  refine XS.go (s_iloadn rfl rfl rfl) ?_
  refine XS.go (s_iconst (v := 4) rfl rfl) ?_
  replace hf := xi_none hf
  obtain ⟨qk9, hf⟩ := hf
  replace hf := xb_some hf
  obtain ⟨r10, e11, hf⟩ := hf
  refine r_callv rfl xvX1_number xm5_45 (kf_b_number (d := d) L0 e11) qk9.1 qk9.2 (by decide) rfl rfl (dl0 (by decide)) (by decide) (Nat.le_of_ble_eq_true rfl) ?_
  rintro _ _ ⟨⟨rfl, rfl⟩, L12⟩
  refine XS.go (s_ladd rfl) ?_
  refine XS.go (XS.lcl (L3 := [some (.ref t), some (.int a0), some (.long ((Int32.toInt64 a0) + r10.1)), none]) (s_lstoren rfl rfl (Nat.le_of_ble_eq_true rfl)) rfl) ?_
  refine XS.go (s_lloadn rfl rfl rfl) ?_
  refine XS.go (s_iloadn rfl rfl rfl) ?_
  refine XS.go (s_i2l rfl) ?_
  refine XS.go (s_lcmp rfl) ?_
  refine r_if_eq (tgt := 34) rfl rfl (fun qc13 => ?_) (fun qc13 => ?_)
  · replace hf := xi_pos hf qc13
    exact XR.forget (L2 := [some (.ref t), some (.int a0), none, none]) ⟨rfl, ⟨rfl, trivial⟩⟩ (kb_j_isReference_34 L12 hf)
  · replace hf := xi_neg hf qc13
    refine XS.go (s_lloadn rfl rfl rfl) ?_
    refine XS.go (s_ldc2 rfl (lg_3 220 rfl rfl)) ?_
    refine XS.go (s_ladd rfl) ?_
    refine XS.go (s_aloadn rfl rfl rfl) ?_
    replace hf := xi_none hf
    obtain ⟨qk14, hf⟩ := hf
    refine XS.go (s_getie rfl xf5_29 qk14.1 qk14.2 (by decide) rfl rfl) ?_
    refine XS.go (s_i2l rfl) ?_
    refine XS.go (s_lcmp rfl) ?_
    refine r_if_le (tgt := 42) rfl rfl (fun qc15 => ?_) (fun qc15 => ?_)
    · replace hf := xi_pos hf qc15
      refine XS.go (s_lloadn rfl rfl rfl) ?_
      refine XS.go (s_ldc2 rfl (lg_3 221 rfl rfl)) ?_
      refine XS.go (s_land rfl) ?_
      refine XS.go (s_lconst (v := 0) rfl rfl) ?_
      refine XS.go (s_lcmp rfl) ?_
      refine r_if_eq (tgt := 62) rfl rfl (fun qc16 => ?_) (fun qc16 => ?_)
      · replace hf := xi_pos hf qc16
        exact XR.forget (L2 := [none, none, none, none]) trivial (kb_j_isReference_62 L12 hf)
      · replace hf := xi_neg hf qc16
        refine XS.go (s_aloadn rfl rfl rfl) ?_
        refine XS.go (s_iconst (v := 3) rfl rfl) ?_
        refine XS.go (s_iloadn rfl rfl rfl) ?_
        refine XS.go (s_i2l rfl) ?_
        replace hf := xb_some hf
        obtain ⟨r17, e18, hf⟩ := hf
        refine r_callv rfl xvX5_wrong xm5_32 (kf_j_wrong (d := d) L12 e18) qk14.1 qk14.2 (by decide) rfl rfl (dl0 (by decide)) (by decide) (Nat.le_of_ble_eq_true rfl) ?_
        rintro _ _ ⟨⟨rfl, rfl⟩, L19⟩
        refine r_if_eq (tgt := 66) rfl rfl (fun qc20 => ?_) (fun qc20 => ?_)
        · replace hf := xi_pos hf qc20
          refine XS.go (s_iconst (v := 0) rfl rfl) ?_
          cases hf
          exact XR.retz rfl rfl (by decide) (fun hret => ⟨_, hret, ⟨rfl, rfl⟩, L19⟩)
        · replace hf := xi_neg hf qc20
          exact XR.forget (L2 := [none, none, none, none]) trivial (kb_j_isReference_62 L19 hf)
    · replace hf := xi_neg hf qc15
      exact XR.forget (L2 := [some (.ref t), some (.int a0), none, none]) ⟨rfl, ⟨rfl, trivial⟩⟩ (kb_j_isReference_34 L12 hf)
