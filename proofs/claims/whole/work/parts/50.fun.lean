/-! Methods as functions of the heap -/
def f_u_empty (h : XH) : Option (Unit × XH) := (some ((), (hsi (hsi (hsi (hsi (hsi h 1244 1 0) 1244 2 4) 1244 7 0) 1244 9 0) 1244 10 (-1))))
set_option maxRecDepth 20000 in
theorem kf_u_empty {l : Launch} {G : XG} {d : Nat} {h : XH} {r : Unit × XH} (L0 : LY h) (hf : f_u_empty h = some r) : XC l G xEX0_empty d [.ref 1244] h (fun v h2 => (h2 = r.2 ∧ v = none) ∧ LY r.2) := by
  refine XC.virt xvX0_empty (Nat.le_of_ble_eq_true rfl) ?_
  unfold f_u_empty at hf
  refine XR.norm (L3 := [some (.ref 1244)]) rfl ?_
  refine XS.go (s_aloadn rfl rfl rfl) ?_
  refine XS.go (s_iconst (v := 0) rfl rfl) ?_
  refine XS.go (s_puti rfl xf0_18 (LY.lt L0 (by decide)) (LY.k1244 L0) (by decide) rfl (Or.inl rfl)) ?_
  refine XS.go (s_aloadn rfl rfl rfl) ?_
  refine XS.go (s_iconst (v := 4) rfl rfl) ?_
  refine XS.go (s_puti rfl xf0_22 (LY.lt (by simp only [LY_si, LY_sj]; exact L0) (by decide)) (LY.k1244 (by simp only [LY_si, LY_sj]; exact L0)) (by decide) rfl (Or.inl rfl)) ?_
  refine XS.go (s_aloadn rfl rfl rfl) ?_
  refine XS.go (s_iconst (v := 0) rfl rfl) ?_
  refine XS.go (s_puti rfl xf0_38 (LY.lt (by simp only [LY_si, LY_sj]; exact L0) (by decide)) (LY.k1244 (by simp only [LY_si, LY_sj]; exact L0)) (by decide) rfl (Or.inl rfl)) ?_
  refine XS.go (s_aloadn rfl rfl rfl) ?_
  refine XS.go (s_iconst (v := 0) rfl rfl) ?_
  refine XS.go (s_puti rfl xf0_44 (LY.lt (by simp only [LY_si, LY_sj]; exact L0) (by decide)) (LY.k1244 (by simp only [LY_si, LY_sj]; exact L0)) (by decide) rfl (Or.inl rfl)) ?_
  refine XS.go (s_aloadn rfl rfl rfl) ?_
  refine XS.go (s_iconst (v := (-1)) rfl rfl) ?_
  refine XS.go (s_puti rfl xf0_47 (LY.lt (by simp only [LY_si, LY_sj]; exact L0) (by decide)) (LY.k1244 (by simp only [LY_si, LY_sj]; exact L0)) (by decide) rfl (Or.inl rfl)) ?_
  cases hf
  exact XR.retv rfl rfl (fun hret => ⟨_, hret, ⟨rfl, rfl⟩, (by simp only [LY_si, LY_sj]; exact L0)⟩)
def f_u_isOpen (h : XH) : Option (Int32 × XH) := (if (hi h 1244 10) = (-1) then (some (0, h)) else (some (1, h)))
set_option maxRecDepth 20000 in
theorem kf_u_isOpen {l : Launch} {G : XG} {d : Nat} {h : XH} {r : Int32 × XH} (L0 : LY h) (hf : f_u_isOpen h = some r) : XC l G xEX0_isOpen d [.ref 1244] h (fun v h2 => (h2 = r.2 ∧ v = some (.int r.1)) ∧ LY r.2) := by
  refine XC.virt xvX0_isOpen (Nat.le_of_ble_eq_true rfl) ?_
  unfold f_u_isOpen at hf
  refine XR.norm (L3 := [some (.ref 1244)]) rfl ?_
  refine XS.go (s_aloadn rfl rfl rfl) ?_
  refine XS.go (s_getie rfl xf0_47 (LY.lt L0 (by decide)) (LY.k1244 L0) (by decide) rfl rfl) ?_
  refine XS.go (s_iconst (v := (-1)) rfl rfl) ?_
  refine r_icmp_eq (tgt := 12) rfl rfl (fun qc1 => ?_) (fun qc1 => ?_)
  · replace hf := xi_pos hf qc1
    refine XS.go (s_iconst (v := 0) rfl rfl) ?_
    cases hf
    exact XR.retz rfl rfl (by decide) (fun hret => ⟨_, hret, ⟨rfl, rfl⟩, L0⟩)
  · replace hf := xi_neg hf qc1
    refine XS.go (s_iconst (v := 1) rfl rfl) ?_
    refine XS.go (s_goto (tgt := 13) rfl rfl) ?_
    cases hf
    exact XR.retz rfl rfl (by decide) (fun hret => ⟨_, hret, ⟨rfl, rfl⟩, L0⟩)
def s_u_open_39 (K39 : Int32 → XH → Option (Unit × XH)) (x2 : Int32) (h : XH) : Option (Unit × XH) := (if (nI 32) ≤ x2 then (some ((), h)) else (if 0 ≤ x2 ∧ x2 < nI 32 then (K39 (x2 + 1) (hsi h 1253 (Int32.toNatClampNeg x2) 0)) else none))
set_option maxRecDepth 20000 in
theorem ks_u_open_39 {l : Launch} {G : XG} {d : Nat} {K39 : Int32 → XH → Option (Unit × XH)} {x2 : Int32} {h : XH} {r : Unit × XH} (hK39 : ∀ (x2 : Int32) (h : XH), LY h → K39 x2 h = some r → XR l G xEX0_open d (39, [some (.ref 1244), none, some (.int x2)], [], h) (fun C => ∃ v, xRet xEX0_open C v ∧ (C.2.2.2 = r.2 ∧ v = none) ∧ LY r.2)) (L0 : LY h) (hf : s_u_open_39 K39 x2 h = some r) : XR l G xEX0_open d (39, [some (.ref 1244), none, some (.int x2)], [], h) (fun C => ∃ v, xRet xEX0_open C v ∧ (C.2.2.2 = r.2 ∧ v = none) ∧ LY r.2) := by
  unfold s_u_open_39 at hf
  refine XS.go (s_iloadn rfl rfl rfl) ?_
  refine XS.go (s_aloadn rfl rfl rfl) ?_
  refine XS.go (s_getr rfl xf0_57 (LY.lt L0 (by decide)) (LY.k1244 L0) (by decide) rfl (LY.r1244_13 L0)) ?_
  refine XS.go (s_alene rfl (LY.lt L0 (by decide)) (LY.k1253 L0) (LY.n1253 L0) (by decide)) ?_
  refine r_icmp_ge (tgt := 61) rfl rfl (fun qc1 => ?_) (fun qc1 => ?_)
  · replace hf := xi_pos hf qc1
    cases hf
    exact XR.retv rfl rfl (fun hret => ⟨_, hret, ⟨rfl, rfl⟩, L0⟩)
  · replace hf := xi_neg hf qc1
    refine XS.go (s_aloadn rfl rfl rfl) ?_
    refine XS.go (s_getr rfl xf0_57 (LY.lt L0 (by decide)) (LY.k1244 L0) (by decide) rfl (LY.r1244_13 L0)) ?_
    refine XS.go (s_iloadn rfl rfl rfl) ?_
    refine XS.go (s_iconst (v := 0) rfl rfl) ?_
    replace hf := xi_none hf
    obtain ⟨qk2, hf⟩ := hf
    refine XS.go (s_iast rfl (LY.lt L0 (by decide)) (LY.k1253 L0) (inLit (LY.n1253 L0) qk2.1 qk2.2 (by decide))) ?_
    refine XS.go (XS.lcl (L3 := [some (.ref 1244), none, some (.int (x2 + 1))]) (s_inc rfl rfl (Nat.le_of_ble_eq_true rfl)) rfl) ?_
    refine XS.go (s_goto (tgt := 39) rfl rfl) ?_
    exact XR.forget (L2 := [some (.ref 1244), none, some (.int (x2 + 1))]) ⟨rfl, ⟨rfl, trivial⟩⟩ (hK39 (x2 + 1) _ (by simp only [LY_si, LY_sj]; exact L0) hf)
def b_u_open_39 : Nat → Int32 → XH → Option (Unit × XH)
  | 0, _, _ => none
  | n + 1, x2, h => s_u_open_39 (b_u_open_39 n) x2 h
theorem kb_u_open_39 {l : Launch} {G : XG} {d : Nat} {n : Nat} {x2 : Int32} {h : XH} {r : Unit × XH} (L0 : LY h) (hf : b_u_open_39 n x2 h = some r) : XR l G xEX0_open d (39, [some (.ref 1244), none, some (.int x2)], [], h) (fun C => ∃ v, xRet xEX0_open C v ∧ (C.2.2.2 = r.2 ∧ v = none) ∧ LY r.2) := by
  induction n generalizing x2 h with
  | zero => cases hf
  | succ n ih => exact ks_u_open_39 (fun x2 h L0 hf => ih (h := h) (x2 := x2) L0 hf) L0 hf
def s_u_open_15 (K15 : Int32 → XH → Option (Unit × XH)) (x2 : Int32) (h : XH) : Option (Unit × XH) := (if (nI 16) ≤ x2 then (b_u_open_39 100000 0 h) else (if 0 ≤ x2 ∧ x2 < nI 16 then (K15 (x2 + 1) (hsi h 1252 (Int32.toNatClampNeg x2) (vp_nar .boolean 0))) else none))
set_option maxRecDepth 20000 in
theorem ks_u_open_15 {l : Launch} {G : XG} {d : Nat} {K15 : Int32 → XH → Option (Unit × XH)} {x2 : Int32} {h : XH} {r : Unit × XH} (hK15 : ∀ (x2 : Int32) (h : XH), LY h → K15 x2 h = some r → XR l G xEX0_open d (15, [some (.ref 1244), none, some (.int x2)], [], h) (fun C => ∃ v, xRet xEX0_open C v ∧ (C.2.2.2 = r.2 ∧ v = none) ∧ LY r.2)) (L0 : LY h) (hf : s_u_open_15 K15 x2 h = some r) : XR l G xEX0_open d (15, [some (.ref 1244), none, some (.int x2)], [], h) (fun C => ∃ v, xRet xEX0_open C v ∧ (C.2.2.2 = r.2 ∧ v = none) ∧ LY r.2) := by
  unfold s_u_open_15 at hf
  refine XS.go (s_iloadn rfl rfl rfl) ?_
  refine XS.go (s_aloadn rfl rfl rfl) ?_
  refine XS.go (s_getr rfl xf0_53 (LY.lt L0 (by decide)) (LY.k1244 L0) (by decide) rfl (LY.r1244_12 L0)) ?_
  refine XS.go (s_alene rfl (LY.lt L0 (by decide)) (LY.k1252 L0) (LY.n1252 L0) (by decide)) ?_
  refine r_icmp_ge (tgt := 37) rfl rfl (fun qc3 => ?_) (fun qc3 => ?_)
  · replace hf := xi_pos hf qc3
    refine XS.go (s_iconst (v := 0) rfl rfl) ?_
    refine XS.go (XS.lcl (L3 := [some (.ref 1244), none, some (.int 0)]) (s_istoren rfl rfl (Nat.le_of_ble_eq_true rfl)) rfl) ?_
    exact XR.forget (L2 := [some (.ref 1244), none, some (.int 0)]) ⟨rfl, ⟨rfl, trivial⟩⟩ (kb_u_open_39 L0 hf)
  · replace hf := xi_neg hf qc3
    refine XS.go (s_aloadn rfl rfl rfl) ?_
    refine XS.go (s_getr rfl xf0_53 (LY.lt L0 (by decide)) (LY.k1244 L0) (by decide) rfl (LY.r1244_12 L0)) ?_
    refine XS.go (s_iloadn rfl rfl rfl) ?_
    refine XS.go (s_iconst (v := 0) rfl rfl) ?_
    replace hf := xi_none hf
    obtain ⟨qk4, hf⟩ := hf
    refine XS.go (s_zast rfl (LY.lt L0 (by decide)) (LY.k1252 L0) (inLit (LY.n1252 L0) qk4.1 qk4.2 (by decide))) ?_
    refine XS.go (XS.lcl (L3 := [some (.ref 1244), none, some (.int (x2 + 1))]) (s_inc rfl rfl (Nat.le_of_ble_eq_true rfl)) rfl) ?_
    refine XS.go (s_goto (tgt := 15) rfl rfl) ?_
    exact XR.forget (L2 := [some (.ref 1244), none, some (.int (x2 + 1))]) ⟨rfl, ⟨rfl, trivial⟩⟩ (hK15 (x2 + 1) _ (by simp only [LY_si, LY_sj]; exact L0) hf)
def b_u_open_15 : Nat → Int32 → XH → Option (Unit × XH)
  | 0, _, _ => none
  | n + 1, x2, h => s_u_open_15 (b_u_open_15 n) x2 h
theorem kb_u_open_15 {l : Launch} {G : XG} {d : Nat} {n : Nat} {x2 : Int32} {h : XH} {r : Unit × XH} (L0 : LY h) (hf : b_u_open_15 n x2 h = some r) : XR l G xEX0_open d (15, [some (.ref 1244), none, some (.int x2)], [], h) (fun C => ∃ v, xRet xEX0_open C v ∧ (C.2.2.2 = r.2 ∧ v = none) ∧ LY r.2) := by
  induction n generalizing x2 h with
  | zero => cases hf
  | succ n ih => exact ks_u_open_15 (fun x2 h L0 hf => ih (h := h) (x2 := x2) L0 hf) L0 hf
def f_u_open (a0 : Int32) (h : XH) : Option (Unit × XH) := (b_u_open_15 100000 0 (hsi (hsi h 1244 10 a0) 1244 11 (hi h 1244 1)))
set_option maxRecDepth 20000 in
theorem kf_u_open {l : Launch} {G : XG} {d : Nat} {a0 : Int32} {h : XH} {r : Unit × XH} (L0 : LY h) (hf : f_u_open a0 h = some r) : XC l G xEX0_open d [.ref 1244, .int a0] h (fun v h2 => (h2 = r.2 ∧ v = none) ∧ LY r.2) := by
  refine XC.virt xvX0_open (Nat.le_of_ble_eq_true rfl) ?_
  unfold f_u_open at hf
  refine XR.norm (L3 := [some (.ref 1244), some (.int a0), none]) rfl ?_
  refine XS.go (s_aloadn rfl rfl rfl) ?_
  refine XS.go (s_iloadn rfl rfl rfl) ?_
  refine XS.go (s_puti rfl xf0_47 (LY.lt L0 (by decide)) (LY.k1244 L0) (by decide) rfl (Or.inl rfl)) ?_
  refine XS.go (s_aloadn rfl rfl rfl) ?_
  refine XS.go (s_aloadn rfl rfl rfl) ?_
  refine XS.go (s_getie rfl xf0_18 (LY.lt (by simp only [LY_si, LY_sj]; exact L0) (by decide)) (LY.k1244 (by simp only [LY_si, LY_sj]; exact L0)) (by decide) rfl (hi_hsi_nk (by decide))) ?_
  refine XS.go (s_puti rfl xf0_50 (LY.lt (by simp only [LY_si, LY_sj]; exact L0) (by decide)) (LY.k1244 (by simp only [LY_si, LY_sj]; exact L0)) (by decide) rfl (Or.inl rfl)) ?_
  refine XS.go (s_iconst (v := 0) rfl rfl) ?_
  refine XS.go (XS.lcl (L3 := [some (.ref 1244), some (.int a0), some (.int 0)]) (s_istoren rfl rfl (Nat.le_of_ble_eq_true rfl)) rfl) ?_
  exact XR.forget (L2 := [some (.ref 1244), none, some (.int 0)]) ⟨rfl, ⟨rfl, trivial⟩⟩ (kb_u_open_15 (by simp only [LY_si, LY_sj]; exact L0) hf)
def f_u_isSet (a0 : Int32) (h : XH) : Option (Int32 × XH) := (if a0 < 0 then (some (0, h)) else (if (nI 16) ≤ a0 then (some (0, h)) else (if (hi h 1252 (Int32.toNatClampNeg a0)) = 0 then (some (0, h)) else (some (1, h)))))
set_option maxRecDepth 20000 in
theorem kf_u_isSet {l : Launch} {G : XG} {d : Nat} {a0 : Int32} {h : XH} {r : Int32 × XH} (L0 : LY h) (hf : f_u_isSet a0 h = some r) : XC l G xEX0_isSet d [.ref 1244, .int a0] h (fun v h2 => (h2 = r.2 ∧ v = some (.int r.1)) ∧ LY r.2) := by
  refine XC.virt xvX0_isSet (Nat.le_of_ble_eq_true rfl) ?_
  unfold f_u_isSet at hf
  refine XR.norm (L3 := [some (.ref 1244), some (.int a0)]) rfl ?_
  refine XS.go (s_iloadn rfl rfl rfl) ?_
  refine r_if_lt (tgt := 26) rfl rfl (fun qc1 => ?_) (fun qc1 => ?_)
  · replace hf := xi_pos hf qc1
    refine XS.go (s_iconst (v := 0) rfl rfl) ?_
    cases hf
    exact XR.retz rfl rfl (by decide) (fun hret => ⟨_, hret, ⟨rfl, rfl⟩, L0⟩)
  · replace hf := xi_neg hf qc1
    refine XS.go (s_iloadn rfl rfl rfl) ?_
    refine XS.go (s_aloadn rfl rfl rfl) ?_
    refine XS.go (s_getr rfl xf0_53 (LY.lt L0 (by decide)) (LY.k1244 L0) (by decide) rfl (LY.r1244_12 L0)) ?_
    refine XS.go (s_alene rfl (LY.lt L0 (by decide)) (LY.k1252 L0) (LY.n1252 L0) (by decide)) ?_
    refine r_icmp_ge (tgt := 26) rfl rfl (fun qc2 => ?_) (fun qc2 => ?_)
    · replace hf := xi_pos hf qc2
      refine XS.go (s_iconst (v := 0) rfl rfl) ?_
      cases hf
      exact XR.retz rfl rfl (by decide) (fun hret => ⟨_, hret, ⟨rfl, rfl⟩, L0⟩)
    · replace hf := xi_neg hf qc2
      refine XS.go (s_aloadn rfl rfl rfl) ?_
      refine XS.go (s_getr rfl xf0_53 (LY.lt L0 (by decide)) (LY.k1244 L0) (by decide) rfl (LY.r1244_12 L0)) ?_
      refine XS.go (s_iloadn rfl rfl rfl) ?_
      refine XS.go (s_zalde rfl (LY.lt L0 (by decide)) (LY.k1252 L0) (in_of (N := 16) (LY.n1252 L0) (by decide) qc1 qc2) rfl) ?_
      refine r_if_eq (tgt := 26) rfl rfl (fun qc3 => ?_) (fun qc3 => ?_)
      · replace hf := xi_pos hf qc3
        refine XS.go (s_iconst (v := 0) rfl rfl) ?_
        cases hf
        exact XR.retz rfl rfl (by decide) (fun hret => ⟨_, hret, ⟨rfl, rfl⟩, L0⟩)
      · replace hf := xi_neg hf qc3
        refine XS.go (s_iconst (v := 1) rfl rfl) ?_
        refine XS.go (s_goto (tgt := 27) rfl rfl) ?_
        cases hf
        exact XR.retz rfl rfl (by decide) (fun hret => ⟨_, hret, ⟨rfl, rfl⟩, L0⟩)
def f_u_markSet (a0 : Int32) (h : XH) : Option (Unit × XH) := (if a0 < 0 then (some ((), h)) else (if (nI 16) ≤ a0 then (some ((), h)) else (some ((), (hsi h 1252 (Int32.toNatClampNeg a0) (vp_nar .boolean 1))))))
set_option maxRecDepth 20000 in
theorem kf_u_markSet {l : Launch} {G : XG} {d : Nat} {a0 : Int32} {h : XH} {r : Unit × XH} (L0 : LY h) (hf : f_u_markSet a0 h = some r) : XC l G xEX0_markSet d [.ref 1244, .int a0] h (fun v h2 => (h2 = r.2 ∧ v = none) ∧ LY r.2) := by
  refine XC.virt xvX0_markSet (Nat.le_of_ble_eq_true rfl) ?_
  unfold f_u_markSet at hf
  refine XR.norm (L3 := [some (.ref 1244), some (.int a0)]) rfl ?_
  refine XS.go (s_iloadn rfl rfl rfl) ?_
  refine r_if_lt (tgt := 20) rfl rfl (fun qc1 => ?_) (fun qc1 => ?_)
  · replace hf := xi_pos hf qc1
    cases hf
    exact XR.retv rfl rfl (fun hret => ⟨_, hret, ⟨rfl, rfl⟩, L0⟩)
  · replace hf := xi_neg hf qc1
    refine XS.go (s_iloadn rfl rfl rfl) ?_
    refine XS.go (s_aloadn rfl rfl rfl) ?_
    refine XS.go (s_getr rfl xf0_53 (LY.lt L0 (by decide)) (LY.k1244 L0) (by decide) rfl (LY.r1244_12 L0)) ?_
    refine XS.go (s_alene rfl (LY.lt L0 (by decide)) (LY.k1252 L0) (LY.n1252 L0) (by decide)) ?_
    refine r_icmp_ge (tgt := 20) rfl rfl (fun qc2 => ?_) (fun qc2 => ?_)
    · replace hf := xi_pos hf qc2
      cases hf
      exact XR.retv rfl rfl (fun hret => ⟨_, hret, ⟨rfl, rfl⟩, L0⟩)
    · replace hf := xi_neg hf qc2
      refine XS.go (s_aloadn rfl rfl rfl) ?_
      refine XS.go (s_getr rfl xf0_53 (LY.lt L0 (by decide)) (LY.k1244 L0) (by decide) rfl (LY.r1244_12 L0)) ?_
      refine XS.go (s_iloadn rfl rfl rfl) ?_
      refine XS.go (s_iconst (v := 1) rfl rfl) ?_
      refine XS.go (s_zast rfl (LY.lt L0 (by decide)) (LY.k1252 L0) (in_of (N := 16) (LY.n1252 L0) (by decide) qc1 qc2)) ?_
      cases hf
      exact XR.retv rfl rfl (fun hret => ⟨_, hret, ⟨rfl, rfl⟩, (by simp only [LY_si, LY_sj]; exact L0)⟩)
def b_d_fieldAt_31 (y0 : Option Nat) (h : XH) : Option (Option Nat × XH) := (some (y0, h))
set_option maxRecDepth 20000 in
theorem kb_d_fieldAt_31 {l : Launch} {G : XG} {d : Nat} {y0 : Option Nat} {h : XH} {r : Option Nat × XH} (L0 : LY h) (hf : b_d_fieldAt_31 y0 h = some r) : XR l G xEX2_fieldAt d (31, [none, none], [(va_rf y0)], h) (fun C => ∃ v, xRet xEX2_fieldAt C v ∧ (C.2.2.2 = r.2 ∧ v = some (va_rf r.1)) ∧ LY r.2) := by
  unfold b_d_fieldAt_31 at hf
  cases hf
  exact XR.reta (o := y0) rfl rfl (fun hret => ⟨_, hret, ⟨rfl, rfl⟩, L0⟩)
def b_d_fieldAt_30 (h : XH) : Option (Option Nat × XH) := (b_d_fieldAt_31 none h)
set_option maxRecDepth 20000 in
theorem kb_d_fieldAt_30 {l : Launch} {G : XG} {d : Nat} {h : XH} {r : Option Nat × XH} (L0 : LY h) (hf : b_d_fieldAt_30 h = some r) : XR l G xEX2_fieldAt d (30, [none, none], [], h) (fun C => ∃ v, xRet xEX2_fieldAt C v ∧ (C.2.2.2 = r.2 ∧ v = some (va_rf r.1)) ∧ LY r.2) := by
  unfold b_d_fieldAt_30 at hf
  refine XS.go (s_null rfl) ?_
  exact XR.forget (L2 := [none, none]) trivial (kb_d_fieldAt_31 L0 hf)
def f_d_fieldAt (t : Nat) (a0 : Int32) (h : XH) : Option (Option Nat × XH) := (if a0 < 0 then (b_d_fieldAt_30 h) else (if t < hz h ∧ hk h t = 2 then (if (hi h t 3) ≤ a0 then (b_d_fieldAt_30 h) else (Option.bind (hr h t 2) fun b4 => (if b4 < hz h ∧ hk h b4 = 104 then (if (nI (hn h b4)) ≤ a0 then (b_d_fieldAt_30 h) else (if 0 ≤ a0 ∧ a0 < nI (hn h b4) ∧ (hn h b4) < 2 ^ 31 then (Option.bind (hr h b4 (Int32.toNatClampNeg a0)) fun b9 => (b_d_fieldAt_31 (some b9) h)) else none)) else none))) else none))
set_option maxRecDepth 20000 in
theorem kf_d_fieldAt {l : Launch} {G : XG} {d : Nat} {t : Nat} {a0 : Int32} {h : XH} {r : Option Nat × XH} (L0 : LY h) (hf : f_d_fieldAt t a0 h = some r) : XC l G xEX2_fieldAt d [.ref t, .int a0] h (fun v h2 => (h2 = r.2 ∧ v = some (va_rf r.1)) ∧ LY r.2) := by
  refine XC.virt xvX2_fieldAt (Nat.le_of_ble_eq_true rfl) ?_
  unfold f_d_fieldAt at hf
  refine XR.norm (L3 := [some (.ref t), some (.int a0)]) rfl ?_
  refine XS.go (s_iloadn rfl rfl rfl) ?_
  refine r_if_lt (tgt := 30) rfl rfl (fun qc1 => ?_) (fun qc1 => ?_)
  · replace hf := xi_pos hf qc1
    exact XR.forget (L2 := [none, none]) trivial (kb_d_fieldAt_30 L0 hf)
  · replace hf := xi_neg hf qc1
    refine XS.go (s_iloadn rfl rfl rfl) ?_
    refine XS.go (s_aloadn rfl rfl rfl) ?_
    replace hf := xi_none hf
    obtain ⟨qk2, hf⟩ := hf
    refine XS.go (s_getie rfl xf2_9 qk2.1 qk2.2 (by decide) rfl rfl) ?_
    refine r_icmp_ge (tgt := 30) rfl rfl (fun qc3 => ?_) (fun qc3 => ?_)
    · replace hf := xi_pos hf qc3
      exact XR.forget (L2 := [none, none]) trivial (kb_d_fieldAt_30 L0 hf)
    · replace hf := xi_neg hf qc3
      refine XS.go (s_iloadn rfl rfl rfl) ?_
      refine XS.go (s_aloadn rfl rfl rfl) ?_
      replace hf := xb_some hf
      obtain ⟨b4, qr5, hf⟩ := hf
      refine XS.go (s_getr rfl xf2_42 qk2.1 qk2.2 (by decide) rfl qr5) ?_
      replace hf := xi_none hf
      obtain ⟨qk6, hf⟩ := hf
      refine XS.go (s_alene (N := hn h b4) rfl qk6.1 qk6.2 rfl (by decide)) ?_
      refine r_icmp_ge (tgt := 30) rfl rfl (fun qc7 => ?_) (fun qc7 => ?_)
      · replace hf := xi_pos hf qc7
        exact XR.forget (L2 := [none, none]) trivial (kb_d_fieldAt_30 L0 hf)
      · replace hf := xi_neg hf qc7
        refine XS.go (s_aloadn rfl rfl rfl) ?_
        refine XS.go (s_getr rfl xf2_42 qk2.1 qk2.2 (by decide) rfl qr5) ?_
        refine XS.go (s_iloadn rfl rfl rfl) ?_
        replace hf := xi_none hf
        obtain ⟨qk8, hf⟩ := hf
        replace hf := xb_some hf
        obtain ⟨b9, qr10, hf⟩ := hf
        refine XS.go (s_aald104e rfl qk6.1 qk6.2 (inLit (N := hn h b4) rfl qk8.1 qk8.2.1 qk8.2.2) qr10) ?_
        refine XS.go (s_goto (tgt := 31) rfl rfl) ?_
        exact XR.forget (L2 := [none, none]) trivial (kb_d_fieldAt_31 L0 hf)
def b_u_hasRequired_43 (K8 : Nat → Int32 → XH → Option (Int32 × XH)) (x1 : Nat) (x2 : Int32) (h : XH) : Option (Int32 × XH) := (K8 x1 (x2 + 1) h)
set_option maxRecDepth 20000 in
theorem kb_u_hasRequired_43 {l : Launch} {G : XG} {d : Nat} {K8 : Nat → Int32 → XH → Option (Int32 × XH)} {x1 : Nat} {x2 : Int32} {h : XH} {r : Int32 × XH} (hK8 : ∀ (x1 : Nat) (x2 : Int32) (h : XH), LY h → K8 x1 x2 h = some r → XR l G xEX0_hasRequired (d + 1) (8, [some (.ref 1244), some (.ref x1), some (.int x2), none], [], h) (fun C => ∃ v, xRet xEX0_hasRequired C v ∧ (C.2.2.2 = r.2 ∧ v = some (.int r.1)) ∧ LY r.2)) (L0 : LY h) (hf : b_u_hasRequired_43 K8 x1 x2 h = some r) : XR l G xEX0_hasRequired (d + 1) (43, [some (.ref 1244), some (.ref x1), some (.int x2), none], [], h) (fun C => ∃ v, xRet xEX0_hasRequired C v ∧ (C.2.2.2 = r.2 ∧ v = some (.int r.1)) ∧ LY r.2) := by
  unfold b_u_hasRequired_43 at hf
  refine XS.go (XS.lcl (L3 := [some (.ref 1244), some (.ref x1), some (.int (x2 + 1)), none]) (s_inc rfl rfl (Nat.le_of_ble_eq_true rfl)) rfl) ?_
  refine XS.go (s_goto (tgt := 8) rfl rfl) ?_
  exact XR.forget (L2 := [some (.ref 1244), some (.ref x1), some (.int (x2 + 1)), none]) ⟨rfl, ⟨rfl, ⟨rfl, trivial⟩⟩⟩ (hK8 x1 (x2 + 1) _ L0 hf)
def s_u_hasRequired_8 (K8 : Nat → Int32 → XH → Option (Int32 × XH)) (x1 : Nat) (x2 : Int32) (h : XH) : Option (Int32 × XH) := (if x1 < hz h ∧ hk h x1 = 2 then (if (hi h x1 3) ≤ x2 then (some (1, h)) else (Option.bind (f_d_fieldAt x1 x2 h) fun r3 => (Option.elim (r3.1) (b_u_hasRequired_43 K8 x1 x2 r3.2) fun b7 => (if b7 < hz r3.2 ∧ hk r3.2 b7 = 3 then (if (hi r3.2 b7 7) = 0 then (b_u_hasRequired_43 K8 x1 x2 r3.2) else (Option.bind (f_u_isSet x2 r3.2) fun r10 => (if ¬ r10.1 = 0 then (b_u_hasRequired_43 K8 x1 x2 r10.2) else (some (0, r10.2))))) else none)))) else none)
set_option maxRecDepth 20000 in
theorem ks_u_hasRequired_8 {l : Launch} {G : XG} {d : Nat} {K8 : Nat → Int32 → XH → Option (Int32 × XH)} {x1 : Nat} {x2 : Int32} {h : XH} {r : Int32 × XH} (hK8 : ∀ (x1 : Nat) (x2 : Int32) (h : XH), LY h → K8 x1 x2 h = some r → XR l G xEX0_hasRequired (d + 1) (8, [some (.ref 1244), some (.ref x1), some (.int x2), none], [], h) (fun C => ∃ v, xRet xEX0_hasRequired C v ∧ (C.2.2.2 = r.2 ∧ v = some (.int r.1)) ∧ LY r.2)) (L0 : LY h) (hf : s_u_hasRequired_8 K8 x1 x2 h = some r) : XR l G xEX0_hasRequired (d + 1) (8, [some (.ref 1244), some (.ref x1), some (.int x2), none], [], h) (fun C => ∃ v, xRet xEX0_hasRequired C v ∧ (C.2.2.2 = r.2 ∧ v = some (.int r.1)) ∧ LY r.2) := by
  unfold s_u_hasRequired_8 at hf
  refine XS.go (s_iloadn rfl rfl rfl) ?_
  refine XS.go (s_aloadn rfl rfl rfl) ?_
  replace hf := xi_none hf
  obtain ⟨qk1, hf⟩ := hf
  refine XS.go (s_getie rfl xf0_66 qk1.1 qk1.2 (by decide) rfl rfl) ?_
  refine r_icmp_ge (tgt := 49) rfl rfl (fun qc2 => ?_) (fun qc2 => ?_)
  · replace hf := xi_pos hf qc2
    refine XS.go (s_iconst (v := 1) rfl rfl) ?_
    cases hf
    exact XR.retz rfl rfl (by decide) (fun hret => ⟨_, hret, ⟨rfl, rfl⟩, L0⟩)
  · replace hf := xi_neg hf qc2
    refine XS.go (s_aloadn rfl rfl rfl) ?_
    refine XS.go (s_iloadn rfl rfl rfl) ?_
    replace hf := xb_some hf
    obtain ⟨r3, e4, hf⟩ := hf
    refine r_callv rfl xvX2_fieldAt xm0_71 (kf_d_fieldAt (d := d) L0 e4) qk1.1 qk1.2 (by decide) rfl rfl (dl0 (by decide)) (by decide) (Nat.le_of_ble_eq_true rfl) ?_
    rintro _ _ ⟨⟨rfl, rfl⟩, L5⟩
    refine XS.go (XS.lcl (L3 := [some (.ref 1244), some (.ref x1), some (.int x2), some (va_rf r3.1)]) (s_astorenO rfl rfl (Nat.le_of_ble_eq_true rfl)) rfl) ?_
    refine XS.go (s_aloadnO rfl rfl rfl) ?_
    refine r_ifnull (tgt := 43) rfl rfl (fun qn6 => ?_) (fun b7 qn6 => ?_)
    · replace hf := xo_none hf qn6
      try rw [qn6]
      exact XR.forget (L2 := [some (.ref 1244), some (.ref x1), some (.int x2), none]) ⟨rfl, ⟨rfl, ⟨rfl, trivial⟩⟩⟩ (kb_u_hasRequired_43 hK8 L5 hf)
    · replace hf := xo_some hf qn6
      try rw [qn6]
      refine XS.go (s_aloadn rfl rfl rfl) ?_
      replace hf := xi_none hf
      obtain ⟨qk8, hf⟩ := hf
      refine XS.go (s_getze rfl xf0_75 qk8.1 qk8.2 (by decide) rfl rfl) ?_
      refine r_if_eq (tgt := 43) rfl rfl (fun qc9 => ?_) (fun qc9 => ?_)
      · replace hf := xi_pos hf qc9
        exact XR.forget (L2 := [some (.ref 1244), some (.ref x1), some (.int x2), none]) ⟨rfl, ⟨rfl, ⟨rfl, trivial⟩⟩⟩ (kb_u_hasRequired_43 hK8 L5 hf)
      · replace hf := xi_neg hf qc9
        refine XS.go (s_aloadn rfl rfl rfl) ?_
        refine XS.go (s_iloadn rfl rfl rfl) ?_
        replace hf := xb_some hf
        obtain ⟨r10, e11, hf⟩ := hf
        refine r_callv rfl xvX0_isSet xm0_81 (kf_u_isSet (d := d) L5 e11) (LY.lt L5 (by decide)) (LY.k1244 L5) (by decide) rfl rfl (dl0 (by decide)) (by decide) (Nat.le_of_ble_eq_true rfl) ?_
        rintro _ _ ⟨⟨rfl, rfl⟩, L12⟩
        refine r_if_ne (tgt := 43) rfl rfl (fun qc13 => ?_) (fun qc13 => ?_)
        · replace hf := xi_pos hf qc13
          exact XR.forget (L2 := [some (.ref 1244), some (.ref x1), some (.int x2), none]) ⟨rfl, ⟨rfl, ⟨rfl, trivial⟩⟩⟩ (kb_u_hasRequired_43 hK8 L12 hf)
        · replace hf := xi_neg hf qc13
          refine XS.go (s_iconst (v := 0) rfl rfl) ?_
          cases hf
          exact XR.retz rfl rfl (by decide) (fun hret => ⟨_, hret, ⟨rfl, rfl⟩, L12⟩)
def b_u_hasRequired_8 : Nat → Nat → Int32 → XH → Option (Int32 × XH)
  | 0, _, _, _ => none
  | n + 1, x1, x2, h => s_u_hasRequired_8 (b_u_hasRequired_8 n) x1 x2 h
theorem kb_u_hasRequired_8 {l : Launch} {G : XG} {d : Nat} {n : Nat} {x1 : Nat} {x2 : Int32} {h : XH} {r : Int32 × XH} (L0 : LY h) (hf : b_u_hasRequired_8 n x1 x2 h = some r) : XR l G xEX0_hasRequired (d + 1) (8, [some (.ref 1244), some (.ref x1), some (.int x2), none], [], h) (fun C => ∃ v, xRet xEX0_hasRequired C v ∧ (C.2.2.2 = r.2 ∧ v = some (.int r.1)) ∧ LY r.2) := by
  induction n generalizing x1 x2 h with
  | zero => cases hf
  | succ n ih => exact ks_u_hasRequired_8 (fun x1 x2 h L0 hf => ih (h := h) (x1 := x1) (x2 := x2) L0 hf) L0 hf
def f_u_hasRequired (a0 : Nat) (h : XH) : Option (Int32 × XH) := (b_u_hasRequired_8 100000 a0 0 h)
set_option maxRecDepth 20000 in
theorem kf_u_hasRequired {l : Launch} {G : XG} {d : Nat} {a0 : Nat} {h : XH} {r : Int32 × XH} (L0 : LY h) (hf : f_u_hasRequired a0 h = some r) : XC l G xEX0_hasRequired (d + 1) [.ref 1244, .ref a0] h (fun v h2 => (h2 = r.2 ∧ v = some (.int r.1)) ∧ LY r.2) := by
  refine XC.virt xvX0_hasRequired (Nat.le_of_ble_eq_true rfl) ?_
  unfold f_u_hasRequired at hf
  refine XR.norm (L3 := [some (.ref 1244), some (.ref a0), none, none]) rfl ?_
  refine XS.go (s_aloadn rfl rfl rfl) ?_
  refine XS.go (s_ifnonnull_r (tgt := 6) rfl rfl) ?_
  refine XS.go (s_iconst (v := 0) rfl rfl) ?_
  refine XS.go (XS.lcl (L3 := [some (.ref 1244), some (.ref a0), some (.int 0), none]) (s_istoren rfl rfl (Nat.le_of_ble_eq_true rfl)) rfl) ?_
  exact XR.forget (L2 := [some (.ref 1244), some (.ref a0), some (.int 0), none]) ⟨rfl, ⟨rfl, ⟨rfl, trivial⟩⟩⟩ (kb_u_hasRequired_8 L0 hf)
def f_u_isThing (a0 : Int64) (a1 : Int32) (a2 : Int32) (a3 : Int32) (h : XH) : Option (Int32 × XH) := (if (lg_cmp a0 (0 : Int64)) < 0 then (some (0, h)) else (if 0 ≤ (lg_cmp a0 (Int32.toInt64 (hi h 1244 7))) then (some (0, h)) else (if (lg_cmp a0 (300 : Int64)) < 0 then (if 0 ≤ (Int64.toInt32 a0) ∧ (Int64.toInt32 a0) < nI 300 then (if ¬ (hi h 1247 (Int32.toNatClampNeg (Int64.toInt32 a0))) = a1 then (some (0, h)) else (if ¬ (hi h 1248 (Int32.toNatClampNeg (Int64.toInt32 a0))) = a2 then (some (0, h)) else (if ¬ (hi h 1249 (Int32.toNatClampNeg (Int64.toInt32 a0))) = a3 then (some (0, h)) else (some (1, h))))) else none) else (some (0, h)))))
set_option maxRecDepth 20000 in
theorem kf_u_isThing {l : Launch} {G : XG} {d : Nat} {a0 : Int64} {a1 : Int32} {a2 : Int32} {a3 : Int32} {h : XH} {r : Int32 × XH} (L0 : LY h) (hf : f_u_isThing a0 a1 a2 a3 h = some r) : XC l G xEX0_isThing d [.ref 1244, .long a0, .int a1, .int a2, .int a3] h (fun v h2 => (h2 = r.2 ∧ v = some (.int r.1)) ∧ LY r.2) := by
  refine XC.virt xvX0_isThing (Nat.le_of_ble_eq_true rfl) ?_
  unfold f_u_isThing at hf
  refine XR.norm (L3 := [some (.ref 1244), some (.long a0), none, some (.int a1), some (.int a2), some (.int a3), none]) rfl ?_
  refine XS.go (s_lloadn rfl rfl rfl) ?_
  refine XS.go (s_lconst (v := 0) rfl rfl) ?_
  refine XS.go (s_lcmp rfl) ?_
  refine r_if_lt (tgt := 24) rfl rfl (fun qc1 => ?_) (fun qc1 => ?_)
  · replace hf := xi_pos hf qc1
    refine XS.go (s_iconst (v := 0) rfl rfl) ?_
    cases hf
    exact XR.retz rfl rfl (by decide) (fun hret => ⟨_, hret, ⟨rfl, rfl⟩, L0⟩)
  · replace hf := xi_neg hf qc1
    refine XS.go (s_lloadn rfl rfl rfl) ?_
    refine XS.go (s_aloadn rfl rfl rfl) ?_
    refine XS.go (s_getie rfl xf0_38 (LY.lt L0 (by decide)) (LY.k1244 L0) (by decide) rfl rfl) ?_
    refine XS.go (s_i2l rfl) ?_
    refine XS.go (s_lcmp rfl) ?_
    refine r_if_ge (tgt := 24) rfl rfl (fun qc2 => ?_) (fun qc2 => ?_)
    · replace hf := xi_pos hf qc2
      refine XS.go (s_iconst (v := 0) rfl rfl) ?_
      cases hf
      exact XR.retz rfl rfl (by decide) (fun hret => ⟨_, hret, ⟨rfl, rfl⟩, L0⟩)
    · replace hf := xi_neg hf qc2
      refine XS.go (s_lloadn rfl rfl rfl) ?_
      refine XS.go (s_ldc2 rfl (lg_6 138 rfl rfl)) ?_
      refine XS.go (s_lcmp rfl) ?_
      refine r_if_lt (tgt := 26) rfl rfl (fun qc3 => ?_) (fun qc3 => ?_)
      · replace hf := xi_pos hf qc3
        refine XS.go (s_lloadn rfl rfl rfl) ?_
        refine XS.go (s_l2i rfl) ?_
        refine XS.go (XS.lcl (L3 := [some (.ref 1244), some (.long a0), none, some (.int a1), some (.int a2), some (.int a3), some (.int (Int64.toInt32 a0))]) (s_istore rfl (Nat.le_of_ble_eq_true rfl)) rfl) ?_
        refine XS.go (s_aloadn rfl rfl rfl) ?_
        refine XS.go (s_getr rfl xf0_25 (LY.lt L0 (by decide)) (LY.k1244 L0) (by decide) rfl (LY.r1244_3 L0)) ?_
        refine XS.go (s_iload rfl rfl) ?_
        replace hf := xi_none hf
        obtain ⟨qk4, hf⟩ := hf
        refine XS.go (s_ialde rfl (LY.lt L0 (by decide)) (LY.k1247 L0) (inLit (LY.n1247 L0) qk4.1 qk4.2 (by decide)) rfl) ?_
        refine XS.go (s_iloadn rfl rfl rfl) ?_
        refine r_icmp_ne (tgt := 69) rfl rfl (fun qc5 => ?_) (fun qc5 => ?_)
        · replace hf := xi_pos hf qc5
          refine XS.go (s_iconst (v := 0) rfl rfl) ?_
          cases hf
          exact XR.retz rfl rfl (by decide) (fun hret => ⟨_, hret, ⟨rfl, rfl⟩, L0⟩)
        · replace hf := xi_neg hf qc5
          refine XS.go (s_aloadn rfl rfl rfl) ?_
          refine XS.go (s_getr rfl xf0_29 (LY.lt L0 (by decide)) (LY.k1244 L0) (by decide) rfl (LY.r1244_4 L0)) ?_
          refine XS.go (s_iload rfl rfl) ?_
          refine XS.go (s_ialde rfl (LY.lt L0 (by decide)) (LY.k1248 L0) (inLit (LY.n1248 L0) qk4.1 qk4.2 (by decide)) rfl) ?_
          refine XS.go (s_iload rfl rfl) ?_
          refine r_icmp_ne (tgt := 69) rfl rfl (fun qc6 => ?_) (fun qc6 => ?_)
          · replace hf := xi_pos hf qc6
            refine XS.go (s_iconst (v := 0) rfl rfl) ?_
            cases hf
            exact XR.retz rfl rfl (by decide) (fun hret => ⟨_, hret, ⟨rfl, rfl⟩, L0⟩)
          · replace hf := xi_neg hf qc6
            refine XS.go (s_aloadn rfl rfl rfl) ?_
            refine XS.go (s_getr rfl xf0_32 (LY.lt L0 (by decide)) (LY.k1244 L0) (by decide) rfl (LY.r1244_5 L0)) ?_
            refine XS.go (s_iload rfl rfl) ?_
            refine XS.go (s_ialde rfl (LY.lt L0 (by decide)) (LY.k1249 L0) (inLit (LY.n1249 L0) qk4.1 qk4.2 (by decide)) rfl) ?_
            refine XS.go (s_iload rfl rfl) ?_
            refine r_icmp_ne (tgt := 69) rfl rfl (fun qc7 => ?_) (fun qc7 => ?_)
            · replace hf := xi_pos hf qc7
              refine XS.go (s_iconst (v := 0) rfl rfl) ?_
              cases hf
              exact XR.retz rfl rfl (by decide) (fun hret => ⟨_, hret, ⟨rfl, rfl⟩, L0⟩)
            · replace hf := xi_neg hf qc7
              refine XS.go (s_iconst (v := 1) rfl rfl) ?_
              refine XS.go (s_goto (tgt := 70) rfl rfl) ?_
              cases hf
              exact XR.retz rfl rfl (by decide) (fun hret => ⟨_, hret, ⟨rfl, rfl⟩, L0⟩)
      · replace hf := xi_neg hf qc3
        refine XS.go (s_iconst (v := 0) rfl rfl) ?_
        cases hf
        exact XR.retz rfl rfl (by decide) (fun hret => ⟨_, hret, ⟨rfl, rfl⟩, L0⟩)
def f_u_hasRoomForThing (a0 : Int32) (h : XH) : Option (Int32 × XH) := (if 300 ≤ (hi h 1244 7) then (some (0, h)) else (if 4000 < a0 then (some (0, h)) else (some (1, h))))
set_option maxRecDepth 20000 in
theorem kf_u_hasRoomForThing {l : Launch} {G : XG} {d : Nat} {a0 : Int32} {h : XH} {r : Int32 × XH} (L0 : LY h) (hf : f_u_hasRoomForThing a0 h = some r) : XC l G xEX0_hasRoomForThing d [.ref 1244, .int a0] h (fun v h2 => (h2 = r.2 ∧ v = some (.int r.1)) ∧ LY r.2) := by
  refine XC.virt xvX0_hasRoomForThing (Nat.le_of_ble_eq_true rfl) ?_
  unfold f_u_hasRoomForThing at hf
  refine XR.norm (L3 := [some (.ref 1244), some (.int a0)]) rfl ?_
  refine XS.go (s_aloadn rfl rfl rfl) ?_
  refine XS.go (s_getie rfl xf0_38 (LY.lt L0 (by decide)) (LY.k1244 L0) (by decide) rfl rfl) ?_
  refine XS.go (s_sipush (v := 300) rfl rfl) ?_
  refine r_icmp_ge (tgt := 21) rfl rfl (fun qc1 => ?_) (fun qc1 => ?_)
  · replace hf := xi_pos hf qc1
    refine XS.go (s_iconst (v := 0) rfl rfl) ?_
    cases hf
    exact XR.retz rfl rfl (by decide) (fun hret => ⟨_, hret, ⟨rfl, rfl⟩, L0⟩)
  · replace hf := xi_neg hf qc1
    refine XS.go (s_iloadn rfl rfl rfl) ?_
    refine XS.go (s_sipush (v := 4000) rfl rfl) ?_
    refine r_icmp_gt (tgt := 21) rfl rfl (fun qc2 => ?_) (fun qc2 => ?_)
    · replace hf := xi_pos hf qc2
      refine XS.go (s_iconst (v := 0) rfl rfl) ?_
      cases hf
      exact XR.retz rfl rfl (by decide) (fun hret => ⟨_, hret, ⟨rfl, rfl⟩, L0⟩)
    · replace hf := xi_neg hf qc2
      refine XS.go (s_iconst (v := 1) rfl rfl) ?_
      refine XS.go (s_goto (tgt := 22) rfl rfl) ?_
      cases hf
      exact XR.retz rfl rfl (by decide) (fun hret => ⟨_, hret, ⟨rfl, rfl⟩, L0⟩)
def f_u_addThing (a0 : Int32) (a1 : Int32) (a2 : Int32) (h : XH) : Option (Int32 × XH) := (if (hi h 1244 7) < 0 then (some ((-1), h)) else (if (hi h 1244 7) < 300 then (some ((hi h 1244 7), (hsi (hsi (hsi (hsi (hsi h 1247 (Int32.toNatClampNeg (hi h 1244 7)) a0) 1248 (Int32.toNatClampNeg (hi h 1244 7)) a1) 1249 (Int32.toNatClampNeg (hi h 1244 7)) a2) 1250 (Int32.toNatClampNeg (hi h 1244 7)) (hi h 1244 1)) 1244 7 ((hi h 1244 7) + 1)))) else (some ((-1), h))))
set_option maxRecDepth 20000 in
theorem kf_u_addThing {l : Launch} {G : XG} {d : Nat} {a0 : Int32} {a1 : Int32} {a2 : Int32} {h : XH} {r : Int32 × XH} (L0 : LY h) (hf : f_u_addThing a0 a1 a2 h = some r) : XC l G xEX0_addThing d [.ref 1244, .int a0, .int a1, .int a2] h (fun v h2 => (h2 = r.2 ∧ v = some (.int r.1)) ∧ LY r.2) := by
  refine XC.virt xvX0_addThing (Nat.le_of_ble_eq_true rfl) ?_
  unfold f_u_addThing at hf
  refine XR.norm (L3 := [some (.ref 1244), some (.int a0), some (.int a1), some (.int a2), none]) rfl ?_
  refine XS.go (s_aloadn rfl rfl rfl) ?_
  refine XS.go (s_getie rfl xf0_38 (LY.lt L0 (by decide)) (LY.k1244 L0) (by decide) rfl rfl) ?_
  refine XS.go (XS.lcl (L3 := [some (.ref 1244), some (.int a0), some (.int a1), some (.int a2), some (.int (hi h 1244 7))]) (s_istore rfl (Nat.le_of_ble_eq_true rfl)) rfl) ?_
  refine XS.go (s_iload rfl rfl) ?_
  refine r_if_lt (tgt := 19) rfl rfl (fun qc1 => ?_) (fun qc1 => ?_)
  · replace hf := xi_pos hf qc1
    refine XS.go (s_iconst (v := (-1)) rfl rfl) ?_
    cases hf
    exact XR.reti rfl rfl (fun hret => ⟨_, hret, ⟨rfl, rfl⟩, L0⟩)
  · replace hf := xi_neg hf qc1
    refine XS.go (s_iload rfl rfl) ?_
    refine XS.go (s_sipush (v := 300) rfl rfl) ?_
    refine r_icmp_lt (tgt := 21) rfl rfl (fun qc2 => ?_) (fun qc2 => ?_)
    · replace hf := xi_pos hf qc2
      refine XS.go (s_aloadn rfl rfl rfl) ?_
      refine XS.go (s_getr rfl xf0_25 (LY.lt L0 (by decide)) (LY.k1244 L0) (by decide) rfl (LY.r1244_3 L0)) ?_
      refine XS.go (s_iload rfl rfl) ?_
      refine XS.go (s_iloadn rfl rfl rfl) ?_
      refine XS.go (s_iast rfl (LY.lt L0 (by decide)) (LY.k1247 L0) (in_of (N := 300) (LY.n1247 L0) (by decide) qc1 (Int32.not_le.mpr qc2))) ?_
      refine XS.go (s_aloadn rfl rfl rfl) ?_
      refine XS.go (s_getr rfl xf0_29 (LY.lt (by simp only [LY_si, LY_sj]; exact L0) (by decide)) (LY.k1244 (by simp only [LY_si, LY_sj]; exact L0)) (by decide) rfl (LY.r1244_4 (by simp only [LY_si, LY_sj]; exact L0))) ?_
      refine XS.go (s_iload rfl rfl) ?_
      refine XS.go (s_iloadn rfl rfl rfl) ?_
      refine XS.go (s_iast rfl (LY.lt (by simp only [LY_si, LY_sj]; exact L0) (by decide)) (LY.k1248 (by simp only [LY_si, LY_sj]; exact L0)) (in_of (N := 300) (LY.n1248 (by simp only [LY_si, LY_sj]; exact L0)) (by decide) qc1 (Int32.not_le.mpr qc2))) ?_
      refine XS.go (s_aloadn rfl rfl rfl) ?_
      refine XS.go (s_getr rfl xf0_32 (LY.lt (by simp only [LY_si, LY_sj]; exact L0) (by decide)) (LY.k1244 (by simp only [LY_si, LY_sj]; exact L0)) (by decide) rfl (LY.r1244_5 (by simp only [LY_si, LY_sj]; exact L0))) ?_
      refine XS.go (s_iload rfl rfl) ?_
      refine XS.go (s_iloadn rfl rfl rfl) ?_
      refine XS.go (s_iast rfl (LY.lt (by simp only [LY_si, LY_sj]; exact L0) (by decide)) (LY.k1249 (by simp only [LY_si, LY_sj]; exact L0)) (in_of (N := 300) (LY.n1249 (by simp only [LY_si, LY_sj]; exact L0)) (by decide) qc1 (Int32.not_le.mpr qc2))) ?_
      refine XS.go (s_aloadn rfl rfl rfl) ?_
      refine XS.go (s_getr rfl xf0_35 (LY.lt (by simp only [LY_si, LY_sj]; exact L0) (by decide)) (LY.k1244 (by simp only [LY_si, LY_sj]; exact L0)) (by decide) rfl (LY.r1244_6 (by simp only [LY_si, LY_sj]; exact L0))) ?_
      refine XS.go (s_iload rfl rfl) ?_
      refine XS.go (s_aloadn rfl rfl rfl) ?_
      refine XS.go (s_getie rfl xf0_18 (LY.lt (by simp only [LY_si, LY_sj]; exact L0) (by decide)) (LY.k1244 (by simp only [LY_si, LY_sj]; exact L0)) (by decide) rfl ((hi_hsi_na (by decide)).trans ((hi_hsi_na (by decide)).trans (hi_hsi_na (by decide))))) ?_
      refine XS.go (s_iast rfl (LY.lt (by simp only [LY_si, LY_sj]; exact L0) (by decide)) (LY.k1250 (by simp only [LY_si, LY_sj]; exact L0)) (in_of (N := 300) (LY.n1250 (by simp only [LY_si, LY_sj]; exact L0)) (by decide) qc1 (Int32.not_le.mpr qc2))) ?_
      refine XS.go (s_aloadn rfl rfl rfl) ?_
      refine XS.go (s_dup rfl rfl) ?_
      refine XS.go (s_getie rfl xf0_38 (LY.lt (by simp only [LY_si, LY_sj]; exact L0) (by decide)) (LY.k1244 (by simp only [LY_si, LY_sj]; exact L0)) (by decide) rfl ((hi_hsi_na (by decide)).trans ((hi_hsi_na (by decide)).trans ((hi_hsi_na (by decide)).trans (hi_hsi_na (by decide)))))) ?_
      refine XS.go (s_iconst (v := 1) rfl rfl) ?_
      refine XS.go (s_iadd rfl) ?_
      refine XS.go (s_puti rfl xf0_38 (LY.lt (by simp only [LY_si, LY_sj]; exact L0) (by decide)) (LY.k1244 (by simp only [LY_si, LY_sj]; exact L0)) (by decide) rfl (Or.inl rfl)) ?_
      refine XS.go (s_iload rfl rfl) ?_
      cases hf
      exact XR.reti rfl rfl (fun hret => ⟨_, hret, ⟨rfl, rfl⟩, (by simp only [LY_si, LY_sj]; exact L0)⟩)
    · replace hf := xi_neg hf qc2
      refine XS.go (s_iconst (v := (-1)) rfl rfl) ?_
      cases hf
      exact XR.reti rfl rfl (fun hret => ⟨_, hret, ⟨rfl, rfl⟩, L0⟩)
def f_t_roundUp (a0 : Int32) (a1 : Int32) (h : XH) : Option (Int32 × XH) := (some ((((a0 + a1) - 1) &&& (-a1)), h))
set_option maxRecDepth 20000 in
theorem kf_t_roundUp {l : Launch} {G : XG} {d : Nat} {a0 : Int32} {a1 : Int32} {h : XH} {r : Int32 × XH} (L0 : LY h) (hf : f_t_roundUp a0 a1 h = some r) : XC l G xEX11_roundUp d [.int a0, .int a1] h (fun v h2 => (h2 = r.2 ∧ v = some (.int r.1)) ∧ LY r.2) := by
  refine XC.stat xsX11_roundUp (Nat.le_of_ble_eq_true rfl) ?_
  unfold f_t_roundUp at hf
  refine XR.norm (L3 := [some (.int a0), some (.int a1)]) rfl ?_
  refine XS.go (s_iloadn rfl rfl rfl) ?_
  refine XS.go (s_iloadn rfl rfl rfl) ?_
  refine XS.go (s_iadd rfl) ?_
  refine XS.go (s_iconst (v := 1) rfl rfl) ?_
  refine XS.go (s_isub rfl) ?_
  refine XS.go (s_iloadn rfl rfl rfl) ?_
  refine XS.go (s_ineg rfl) ?_
  refine XS.go (s_iand rfl) ?_
  cases hf
  exact XR.reti rfl rfl (fun hret => ⟨_, hret, ⟨rfl, rfl⟩, L0⟩)
def f_b_putOctet (t : Nat) (a0 : Int32) (a1 : Int32) (h : XH) : Option (Unit × XH) := (if a0 < 0 then (some ((), h)) else (if t < hz h ∧ hk h t = 1 then (Option.bind (hr h t 0) fun b3 => (if b3 < hz h ∧ hk h b3 = 102 then (if (nI (hn h b3)) ≤ a0 then (some ((), h)) else (if 0 ≤ a0 ∧ a0 < nI (hn h b3) ∧ (hn h b3) < 2 ^ 31 then (some ((), (hsi h b3 (Int32.toNatClampNeg a0) (vp_nar .byte (Int8.toInt32 (Int32.toInt8 a1)))))) else none)) else none)) else none))
set_option maxRecDepth 20000 in
theorem kf_b_putOctet {l : Launch} {G : XG} {d : Nat} {t : Nat} {a0 : Int32} {a1 : Int32} {h : XH} {r : Unit × XH} (L0 : LY h) (hf : f_b_putOctet t a0 a1 h = some r) : XC l G xEX1_putOctet d [.ref t, .int a0, .int a1] h (fun v h2 => (h2 = r.2 ∧ v = none) ∧ LY r.2) := by
  refine XC.virt xvX1_putOctet (Nat.le_of_ble_eq_true rfl) ?_
  unfold f_b_putOctet at hf
  refine XR.norm (L3 := [some (.ref t), some (.int a0), some (.int a1)]) rfl ?_
  refine XS.go (s_iloadn rfl rfl rfl) ?_
  refine r_if_lt (tgt := 21) rfl rfl (fun qc1 => ?_) (fun qc1 => ?_)
  · replace hf := xi_pos hf qc1
    cases hf
    exact XR.retv rfl rfl (fun hret => ⟨_, hret, ⟨rfl, rfl⟩, L0⟩)
  · replace hf := xi_neg hf qc1
    refine XS.go (s_iloadn rfl rfl rfl) ?_
    refine XS.go (s_aloadn rfl rfl rfl) ?_
    replace hf := xi_none hf
    obtain ⟨qk2, hf⟩ := hf
    replace hf := xb_some hf
    obtain ⟨b3, qr4, hf⟩ := hf
    refine XS.go (s_getr rfl xf1_9 qk2.1 qk2.2 (by decide) rfl qr4) ?_
    replace hf := xi_none hf
    obtain ⟨qk5, hf⟩ := hf
    refine XS.go (s_alene (N := hn h b3) rfl qk5.1 qk5.2 rfl (by decide)) ?_
    refine r_icmp_ge (tgt := 21) rfl rfl (fun qc6 => ?_) (fun qc6 => ?_)
    · replace hf := xi_pos hf qc6
      cases hf
      exact XR.retv rfl rfl (fun hret => ⟨_, hret, ⟨rfl, rfl⟩, L0⟩)
    · replace hf := xi_neg hf qc6
      refine XS.go (s_aloadn rfl rfl rfl) ?_
      refine XS.go (s_getr rfl xf1_9 qk2.1 qk2.2 (by decide) rfl qr4) ?_
      refine XS.go (s_iloadn rfl rfl rfl) ?_
      refine XS.go (s_iloadn rfl rfl rfl) ?_
      refine XS.go (s_i2b rfl) ?_
      replace hf := xi_none hf
      obtain ⟨qk7, hf⟩ := hf
      refine XS.go (s_bast rfl qk5.1 qk5.2 (inLit (N := hn h b3) rfl qk7.1 qk7.2.1 qk7.2.2)) ?_
      cases hf
      exact XR.retv rfl rfl (fun hret => ⟨_, hret, ⟨rfl, rfl⟩, (by simp only [LY_si, LY_sj]; exact L0)⟩)
def s_u_grow_19 (K19 : Int32 → Int32 → Int32 → XH → Option (Int32 × XH)) (x2 : Int32) (x3 : Int32) (x4 : Int32) (h : XH) : Option (Int32 × XH) := (if x3 < x4 then (some ((4000 - x3), (hsi (hsi h 1244 1 x3) 1244 2 (if (hi h 1244 2) < x2 then x2 else (hi h 1244 2))))) else (Option.bind (f_b_putOctet 1245 (4000 - x4) 0 h) fun r2 => (K19 x2 x3 (x4 + 1) r2.2)))
set_option maxRecDepth 20000 in
theorem ks_u_grow_19 {l : Launch} {G : XG} {d : Nat} {K19 : Int32 → Int32 → Int32 → XH → Option (Int32 × XH)} {x2 : Int32} {x3 : Int32} {x4 : Int32} {h : XH} {r : Int32 × XH} (hK19 : ∀ (x2 : Int32) (x3 : Int32) (x4 : Int32) (h : XH), LY h → K19 x2 x3 x4 h = some r → XR l G xEX0_grow (d + 1) (19, [some (.ref 1244), none, some (.int x2), some (.int x3), some (.int x4)], [], h) (fun C => ∃ v, xRet xEX0_grow C v ∧ (C.2.2.2 = r.2 ∧ v = some (.int r.1)) ∧ LY r.2)) (L0 : LY h) (hf : s_u_grow_19 K19 x2 x3 x4 h = some r) : XR l G xEX0_grow (d + 1) (19, [some (.ref 1244), none, some (.int x2), some (.int x3), some (.int x4)], [], h) (fun C => ∃ v, xRet xEX0_grow C v ∧ (C.2.2.2 = r.2 ∧ v = some (.int r.1)) ∧ LY r.2) := by
  unfold s_u_grow_19 at hf
  refine XS.go (s_iload rfl rfl) ?_
  refine XS.go (s_iloadn rfl rfl rfl) ?_
  refine r_icmp_gt (tgt := 45) rfl rfl (fun qc1 => ?_) (fun qc1 => ?_)
  · replace hf := xi_pos hf qc1
    refine XS.go (s_aloadn rfl rfl rfl) ?_
    refine XS.go (s_iloadn rfl rfl rfl) ?_
    refine XS.go (s_puti rfl xf0_18 (LY.lt L0 (by decide)) (LY.k1244 L0) (by decide) rfl (Or.inl rfl)) ?_
    refine XS.go (s_aloadn rfl rfl rfl) ?_
    refine XS.go (s_aloadn rfl rfl rfl) ?_
    refine XS.go (s_getie rfl xf0_22 (LY.lt (by simp only [LY_si, LY_sj]; exact L0) (by decide)) (LY.k1244 (by simp only [LY_si, LY_sj]; exact L0)) (by decide) rfl (hi_hsi_nk (by decide))) ?_
    refine XS.go (s_iloadn rfl rfl rfl) ?_
    refine XS.go (s_max rfl (lg_6 77 rfl rfl) (dl1 (by decide)) (Nat.le_of_ble_eq_true rfl)) ?_
    refine XS.go (s_puti rfl xf0_22 (LY.lt (by simp only [LY_si, LY_sj]; exact L0) (by decide)) (LY.k1244 (by simp only [LY_si, LY_sj]; exact L0)) (by decide) rfl (Or.inl rfl)) ?_
    refine XS.go (s_sipush (v := 4000) rfl rfl) ?_
    refine XS.go (s_aloadn rfl rfl rfl) ?_
    refine XS.go (s_getie rfl xf0_18 (LY.lt (by simp only [LY_si, LY_sj]; exact L0) (by decide)) (LY.k1244 (by simp only [LY_si, LY_sj]; exact L0)) (by decide) rfl ((hi_hsi_nk (by decide)).trans hi_hsi_eq)) ?_
    refine XS.go (s_isub rfl) ?_
    cases hf
    exact XR.reti rfl rfl (fun hret => ⟨_, hret, ⟨rfl, rfl⟩, (by simp only [LY_si, LY_sj]; exact L0)⟩)
  · replace hf := xi_neg hf qc1
    refine XS.go (s_aloadn rfl rfl rfl) ?_
    refine XS.go (s_getr rfl xf0_12 (LY.lt L0 (by decide)) (LY.k1244 L0) (by decide) rfl (LY.r1244_0 L0)) ?_
    refine XS.go (s_sipush (v := 4000) rfl rfl) ?_
    refine XS.go (s_iload rfl rfl) ?_
    refine XS.go (s_isub rfl) ?_
    refine XS.go (s_iconst (v := 0) rfl rfl) ?_
    replace hf := xb_some hf
    obtain ⟨r2, e3, hf⟩ := hf
    refine r_callv rfl xvX1_putOctet xm0_91 (kf_b_putOctet (d := d) L0 e3) (LY.lt L0 (by decide)) (LY.k1245 L0) (by decide) rfl rfl (dl0 (by decide)) (by decide) (Nat.le_of_ble_eq_true rfl) ?_
    rintro _ _ ⟨⟨rfl, rfl⟩, L4⟩
    refine XS.go (XS.lcl (L3 := [some (.ref 1244), none, some (.int x2), some (.int x3), some (.int (x4 + 1))]) (s_inc rfl rfl (Nat.le_of_ble_eq_true rfl)) rfl) ?_
    refine XS.go (s_goto (tgt := 19) rfl rfl) ?_
    exact XR.forget (L2 := [some (.ref 1244), none, some (.int x2), some (.int x3), some (.int (x4 + 1))]) ⟨rfl, ⟨rfl, ⟨rfl, ⟨rfl, trivial⟩⟩⟩⟩ (hK19 x2 x3 (x4 + 1) _ L4 hf)
def b_u_grow_19 : Nat → Int32 → Int32 → Int32 → XH → Option (Int32 × XH)
  | 0, _, _, _, _ => none
  | n + 1, x2, x3, x4, h => s_u_grow_19 (b_u_grow_19 n) x2 x3 x4 h
theorem kb_u_grow_19 {l : Launch} {G : XG} {d : Nat} {n : Nat} {x2 : Int32} {x3 : Int32} {x4 : Int32} {h : XH} {r : Int32 × XH} (L0 : LY h) (hf : b_u_grow_19 n x2 x3 x4 h = some r) : XR l G xEX0_grow (d + 1) (19, [some (.ref 1244), none, some (.int x2), some (.int x3), some (.int x4)], [], h) (fun C => ∃ v, xRet xEX0_grow C v ∧ (C.2.2.2 = r.2 ∧ v = some (.int r.1)) ∧ LY r.2) := by
  induction n generalizing x2 x3 x4 h with
  | zero => cases hf
  | succ n ih => exact ks_u_grow_19 (fun x2 x3 x4 h L0 hf => ih (h := h) (x2 := x2) (x3 := x3) (x4 := x4) L0 hf) L0 hf
def f_u_grow (a0 : Int32) (a1 : Int32) (h : XH) : Option (Int32 × XH) := (Option.bind (f_t_roundUp ((hi h 1244 1) + a0) a1 h) fun r5 => (b_u_grow_19 100000 a1 r5.1 ((hi r5.2 1244 1) + 1) r5.2))
set_option maxRecDepth 20000 in
theorem kf_u_grow {l : Launch} {G : XG} {d : Nat} {a0 : Int32} {a1 : Int32} {h : XH} {r : Int32 × XH} (L0 : LY h) (hf : f_u_grow a0 a1 h = some r) : XC l G xEX0_grow (d + 1) [.ref 1244, .int a0, .int a1] h (fun v h2 => (h2 = r.2 ∧ v = some (.int r.1)) ∧ LY r.2) := by
  refine XC.virt xvX0_grow (Nat.le_of_ble_eq_true rfl) ?_
  unfold f_u_grow at hf
  refine XR.norm (L3 := [some (.ref 1244), some (.int a0), some (.int a1), none, none]) rfl ?_
  refine XS.go (s_aloadn rfl rfl rfl) ?_
  refine XS.go (s_getie rfl xf0_18 (LY.lt L0 (by decide)) (LY.k1244 L0) (by decide) rfl rfl) ?_
  refine XS.go (s_iloadn rfl rfl rfl) ?_
  refine XS.go (s_iadd rfl) ?_
  refine XS.go (s_iloadn rfl rfl rfl) ?_
  replace hf := xb_some hf
  obtain ⟨r5, e6, hf⟩ := hf
  refine r_callsn rfl xsX11_roundUp (List.mem_of_getElem? (i := 15) rfl) (kf_t_roundUp (d := d) L0 e6) rfl rfl (dl0 (by decide)) (by decide) (Nat.le_of_ble_eq_true rfl) ?_
  rintro _ _ ⟨⟨rfl, rfl⟩, L7⟩
  refine XS.go (XS.lcl (L3 := [some (.ref 1244), some (.int a0), some (.int a1), some (.int r5.1), none]) (s_istoren rfl rfl (Nat.le_of_ble_eq_true rfl)) rfl) ?_
  refine XS.go (s_aloadn rfl rfl rfl) ?_
  refine XS.go (s_getie rfl xf0_18 (LY.lt L7 (by decide)) (LY.k1244 L7) (by decide) rfl rfl) ?_
  refine XS.go (s_iconst (v := 1) rfl rfl) ?_
  refine XS.go (s_iadd rfl) ?_
  refine XS.go (XS.lcl (L3 := [some (.ref 1244), some (.int a0), some (.int a1), some (.int r5.1), some (.int ((hi r5.2 1244 1) + 1))]) (s_istore rfl (Nat.le_of_ble_eq_true rfl)) rfl) ?_
  exact XR.forget (L2 := [some (.ref 1244), none, some (.int a1), some (.int r5.1), some (.int ((hi r5.2 1244 1) + 1))]) ⟨rfl, ⟨rfl, ⟨rfl, ⟨rfl, trivial⟩⟩⟩⟩ (kb_u_grow_19 L7 hf)
def s_b_putNumber_3 (K3 : Nat → Int32 → Int32 → Int64 → Int32 → XH → Option (Unit × XH)) (x0 : Nat) (x1 : Int32) (x2 : Int32) (x3 : Int64) (x5 : Int32) (h : XH) : Option (Unit × XH) := (if x2 ≤ x5 then (some ((), h)) else (if x0 < hz h ∧ hk h x0 = 1 then (Option.bind (f_b_putOctet x0 (x1 + x5) (Int64.toInt32 (((Int64.toUInt64 x3) >>> ((Int32.toInt64 (8 * x5)).toUInt64 &&& Int64.toUInt64 63)).toInt64)) h) fun r3 => (K3 x0 x1 x2 x3 (x5 + 1) r3.2)) else none))
set_option maxRecDepth 20000 in
theorem ks_b_putNumber_3 {l : Launch} {G : XG} {d : Nat} {K3 : Nat → Int32 → Int32 → Int64 → Int32 → XH → Option (Unit × XH)} {x0 : Nat} {x1 : Int32} {x2 : Int32} {x3 : Int64} {x5 : Int32} {h : XH} {r : Unit × XH} (hK3 : ∀ (x0 : Nat) (x1 : Int32) (x2 : Int32) (x3 : Int64) (x5 : Int32) (h : XH), LY h → K3 x0 x1 x2 x3 x5 h = some r → XR l G xEX1_putNumber (d + 1) (3, [some (.ref x0), some (.int x1), some (.int x2), some (.long x3), none, some (.int x5)], [], h) (fun C => ∃ v, xRet xEX1_putNumber C v ∧ (C.2.2.2 = r.2 ∧ v = none) ∧ LY r.2)) (L0 : LY h) (hf : s_b_putNumber_3 K3 x0 x1 x2 x3 x5 h = some r) : XR l G xEX1_putNumber (d + 1) (3, [some (.ref x0), some (.int x1), some (.int x2), some (.long x3), none, some (.int x5)], [], h) (fun C => ∃ v, xRet xEX1_putNumber C v ∧ (C.2.2.2 = r.2 ∧ v = none) ∧ LY r.2) := by
  unfold s_b_putNumber_3 at hf
  refine XS.go (s_iload rfl rfl) ?_
  refine XS.go (s_iloadn rfl rfl rfl) ?_
  refine r_icmp_ge (tgt := 31) rfl rfl (fun qc1 => ?_) (fun qc1 => ?_)
  · replace hf := xi_pos hf qc1
    cases hf
    exact XR.retv rfl rfl (fun hret => ⟨_, hret, ⟨rfl, rfl⟩, L0⟩)
  · replace hf := xi_neg hf qc1
    refine XS.go (s_aloadn rfl rfl rfl) ?_
    refine XS.go (s_iloadn rfl rfl rfl) ?_
    refine XS.go (s_iload rfl rfl) ?_
    refine XS.go (s_iadd rfl) ?_
    refine XS.go (s_lloadn rfl rfl rfl) ?_
    refine XS.go (s_bipush (v := 8) rfl rfl) ?_
    refine XS.go (s_iload rfl rfl) ?_
    refine XS.go (s_imul rfl) ?_
    refine XS.go (s_lushr rfl) ?_
    refine XS.go (s_l2i rfl) ?_
    replace hf := xi_none hf
    obtain ⟨qk2, hf⟩ := hf
    replace hf := xb_some hf
    obtain ⟨r3, e4, hf⟩ := hf
    refine r_callv rfl xvX1_putOctet xm1_23 (kf_b_putOctet (d := d) L0 e4) qk2.1 qk2.2 (by decide) rfl rfl (dl0 (by decide)) (by decide) (Nat.le_of_ble_eq_true rfl) ?_
    rintro _ _ ⟨⟨rfl, rfl⟩, L5⟩
    refine XS.go (XS.lcl (L3 := [some (.ref x0), some (.int x1), some (.int x2), some (.long x3), none, some (.int (x5 + 1))]) (s_inc rfl rfl (Nat.le_of_ble_eq_true rfl)) rfl) ?_
    refine XS.go (s_goto (tgt := 3) rfl rfl) ?_
    exact XR.forget (L2 := [some (.ref x0), some (.int x1), some (.int x2), some (.long x3), none, some (.int (x5 + 1))]) ⟨rfl, ⟨rfl, ⟨rfl, ⟨rfl, ⟨rfl, trivial⟩⟩⟩⟩⟩ (hK3 x0 x1 x2 x3 (x5 + 1) _ L5 hf)
def b_b_putNumber_3 : Nat → Nat → Int32 → Int32 → Int64 → Int32 → XH → Option (Unit × XH)
  | 0, _, _, _, _, _, _ => none
  | n + 1, x0, x1, x2, x3, x5, h => s_b_putNumber_3 (b_b_putNumber_3 n) x0 x1 x2 x3 x5 h
theorem kb_b_putNumber_3 {l : Launch} {G : XG} {d : Nat} {n : Nat} {x0 : Nat} {x1 : Int32} {x2 : Int32} {x3 : Int64} {x5 : Int32} {h : XH} {r : Unit × XH} (L0 : LY h) (hf : b_b_putNumber_3 n x0 x1 x2 x3 x5 h = some r) : XR l G xEX1_putNumber (d + 1) (3, [some (.ref x0), some (.int x1), some (.int x2), some (.long x3), none, some (.int x5)], [], h) (fun C => ∃ v, xRet xEX1_putNumber C v ∧ (C.2.2.2 = r.2 ∧ v = none) ∧ LY r.2) := by
  induction n generalizing x0 x1 x2 x3 x5 h with
  | zero => cases hf
  | succ n ih => exact ks_b_putNumber_3 (fun x0 x1 x2 x3 x5 h L0 hf => ih (h := h) (x0 := x0) (x1 := x1) (x2 := x2) (x3 := x3) (x5 := x5) L0 hf) L0 hf
def f_b_putNumber (t : Nat) (a0 : Int32) (a1 : Int32) (a2 : Int64) (h : XH) : Option (Unit × XH) := (b_b_putNumber_3 100000 t a0 a1 a2 0 h)
set_option maxRecDepth 20000 in
theorem kf_b_putNumber {l : Launch} {G : XG} {d : Nat} {t : Nat} {a0 : Int32} {a1 : Int32} {a2 : Int64} {h : XH} {r : Unit × XH} (L0 : LY h) (hf : f_b_putNumber t a0 a1 a2 h = some r) : XC l G xEX1_putNumber (d + 1) [.ref t, .int a0, .int a1, .long a2] h (fun v h2 => (h2 = r.2 ∧ v = none) ∧ LY r.2) := by
  refine XC.virt xvX1_putNumber (Nat.le_of_ble_eq_true rfl) ?_
  unfold f_b_putNumber at hf
  refine XR.norm (L3 := [some (.ref t), some (.int a0), some (.int a1), some (.long a2), none, none]) rfl ?_
  refine XS.go (s_iconst (v := 0) rfl rfl) ?_
  refine XS.go (XS.lcl (L3 := [some (.ref t), some (.int a0), some (.int a1), some (.long a2), none, some (.int 0)]) (s_istore rfl (Nat.le_of_ble_eq_true rfl)) rfl) ?_
  exact XR.forget (L2 := [some (.ref t), some (.int a0), some (.int a1), some (.long a2), none, some (.int 0)]) ⟨rfl, ⟨rfl, ⟨rfl, ⟨rfl, ⟨rfl, trivial⟩⟩⟩⟩⟩ (kb_b_putNumber_3 L0 hf)
def f_u_putReference (a0 : Int32) (a1 : Int64) (h : XH) : Option (Unit × XH) := (if (lg_cmp a1 (0 : Int64)) < 0 then (some ((), h)) else (if 0 ≤ (lg_cmp a1 (300 : Int64)) then (some ((), h)) else (if 0 ≤ (Int64.toInt32 a1) ∧ (Int64.toInt32 a1) < nI 300 then (Option.bind (f_b_putNumber 1245 a0 4 (Int32.toInt64 ((4000 - a0) - (hi h 1250 (Int32.toNatClampNeg (Int64.toInt32 a1))))) h) fun r4 => (some ((), r4.2))) else none)))
set_option maxRecDepth 20000 in
theorem kf_u_putReference {l : Launch} {G : XG} {d : Nat} {a0 : Int32} {a1 : Int64} {h : XH} {r : Unit × XH} (L0 : LY h) (hf : f_u_putReference a0 a1 h = some r) : XC l G xEX0_putReference (d + 2) [.ref 1244, .int a0, .long a1] h (fun v h2 => (h2 = r.2 ∧ v = none) ∧ LY r.2) := by
  refine XC.virt xvX0_putReference (Nat.le_of_ble_eq_true rfl) ?_
  unfold f_u_putReference at hf
  refine XR.norm (L3 := [some (.ref 1244), some (.int a0), some (.long a1), none, none]) rfl ?_
  refine XS.go (s_lloadn rfl rfl rfl) ?_
  refine XS.go (s_lconst (v := 0) rfl rfl) ?_
  refine XS.go (s_lcmp rfl) ?_
  refine r_if_lt (tgt := 41) rfl rfl (fun qc1 => ?_) (fun qc1 => ?_)
  · replace hf := xi_pos hf qc1
    cases hf
    exact XR.retv rfl rfl (fun hret => ⟨_, hret, ⟨rfl, rfl⟩, L0⟩)
  · replace hf := xi_neg hf qc1
    refine XS.go (s_lloadn rfl rfl rfl) ?_
    refine XS.go (s_ldc2 rfl (lg_6 138 rfl rfl)) ?_
    refine XS.go (s_lcmp rfl) ?_
    refine r_if_ge (tgt := 41) rfl rfl (fun qc2 => ?_) (fun qc2 => ?_)
    · replace hf := xi_pos hf qc2
      cases hf
      exact XR.retv rfl rfl (fun hret => ⟨_, hret, ⟨rfl, rfl⟩, L0⟩)
    · replace hf := xi_neg hf qc2
      refine XS.go (s_sipush (v := 4000) rfl rfl) ?_
      refine XS.go (s_iloadn rfl rfl rfl) ?_
      refine XS.go (s_isub rfl) ?_
      refine XS.go (XS.lcl (L3 := [some (.ref 1244), some (.int a0), some (.long a1), none, some (.int (4000 - a0))]) (s_istore rfl (Nat.le_of_ble_eq_true rfl)) rfl) ?_
      refine XS.go (s_aloadn rfl rfl rfl) ?_
      refine XS.go (s_getr rfl xf0_12 (LY.lt L0 (by decide)) (LY.k1244 L0) (by decide) rfl (LY.r1244_0 L0)) ?_
      refine XS.go (s_iloadn rfl rfl rfl) ?_
      refine XS.go (s_iconst (v := 4) rfl rfl) ?_
      refine XS.go (s_iload rfl rfl) ?_
      refine XS.go (s_aloadn rfl rfl rfl) ?_
      refine XS.go (s_getr rfl xf0_35 (LY.lt L0 (by decide)) (LY.k1244 L0) (by decide) rfl (LY.r1244_6 L0)) ?_
      refine XS.go (s_lloadn rfl rfl rfl) ?_
      refine XS.go (s_l2i rfl) ?_
      replace hf := xi_none hf
      obtain ⟨qk3, hf⟩ := hf
      refine XS.go (s_ialde rfl (LY.lt L0 (by decide)) (LY.k1250 L0) (inLit (LY.n1250 L0) qk3.1 qk3.2 (by decide)) rfl) ?_
      refine XS.go (s_isub rfl) ?_
      refine XS.go (s_i2l rfl) ?_
      replace hf := xb_some hf
      obtain ⟨r4, e5, hf⟩ := hf
      refine r_callv rfl xvX1_putNumber xm0_100 (kf_b_putNumber (d := d) L0 e5) (LY.lt L0 (by decide)) (LY.k1245 L0) (by decide) rfl rfl (dl (by decide)) (by decide) (Nat.le_of_ble_eq_true rfl) ?_
      rintro _ _ ⟨⟨rfl, rfl⟩, L6⟩
      cases hf
      exact XR.retv rfl rfl (fun hret => ⟨_, hret, ⟨rfl, rfl⟩, L6⟩)
def f_b_octet (t : Nat) (a0 : Int32) (h : XH) : Option (Int32 × XH) := (if a0 < 0 then (some (0, h)) else (if t < hz h ∧ hk h t = 1 then (Option.bind (hr h t 0) fun b3 => (if b3 < hz h ∧ hk h b3 = 102 then (if (nI (hn h b3)) ≤ a0 then (some (0, h)) else (if 0 ≤ a0 ∧ a0 < nI (hn h b3) ∧ (hn h b3) < 2 ^ 31 then (some (((hi h b3 (Int32.toNatClampNeg a0)) &&& 255), h)) else none)) else none)) else none))
set_option maxRecDepth 20000 in
theorem kf_b_octet {l : Launch} {G : XG} {d : Nat} {t : Nat} {a0 : Int32} {h : XH} {r : Int32 × XH} (L0 : LY h) (hf : f_b_octet t a0 h = some r) : XC l G xEX1_octet d [.ref t, .int a0] h (fun v h2 => (h2 = r.2 ∧ v = some (.int r.1)) ∧ LY r.2) := by
  refine XC.virt xvX1_octet (Nat.le_of_ble_eq_true rfl) ?_
  unfold f_b_octet at hf
  refine XR.norm (L3 := [some (.ref t), some (.int a0)]) rfl ?_
  refine XS.go (s_iloadn rfl rfl rfl) ?_
  refine r_if_lt (tgt := 26) rfl rfl (fun qc1 => ?_) (fun qc1 => ?_)
  · replace hf := xi_pos hf qc1
    refine XS.go (s_iconst (v := 0) rfl rfl) ?_
    cases hf
    exact XR.reti rfl rfl (fun hret => ⟨_, hret, ⟨rfl, rfl⟩, L0⟩)
  · replace hf := xi_neg hf qc1
    refine XS.go (s_iloadn rfl rfl rfl) ?_
    refine XS.go (s_aloadn rfl rfl rfl) ?_
    replace hf := xi_none hf
    obtain ⟨qk2, hf⟩ := hf
    replace hf := xb_some hf
    obtain ⟨b3, qr4, hf⟩ := hf
    refine XS.go (s_getr rfl xf1_9 qk2.1 qk2.2 (by decide) rfl qr4) ?_
    replace hf := xi_none hf
    obtain ⟨qk5, hf⟩ := hf
    refine XS.go (s_alene (N := hn h b3) rfl qk5.1 qk5.2 rfl (by decide)) ?_
    refine r_icmp_ge (tgt := 26) rfl rfl (fun qc6 => ?_) (fun qc6 => ?_)
    · replace hf := xi_pos hf qc6
      refine XS.go (s_iconst (v := 0) rfl rfl) ?_
      cases hf
      exact XR.reti rfl rfl (fun hret => ⟨_, hret, ⟨rfl, rfl⟩, L0⟩)
    · replace hf := xi_neg hf qc6
      refine XS.go (s_aloadn rfl rfl rfl) ?_
      refine XS.go (s_getr rfl xf1_9 qk2.1 qk2.2 (by decide) rfl qr4) ?_
      refine XS.go (s_iloadn rfl rfl rfl) ?_
      replace hf := xi_none hf
      obtain ⟨qk7, hf⟩ := hf
      refine XS.go (s_balde rfl qk5.1 qk5.2 (inLit (N := hn h b3) rfl qk7.1 qk7.2.1 qk7.2.2) rfl) ?_
      refine XS.go (s_sipush (v := 255) rfl rfl) ?_
      refine XS.go (s_iand rfl) ?_
      refine XS.go (s_goto (tgt := 27) rfl rfl) ?_
      cases hf
      exact XR.reti rfl rfl (fun hret => ⟨_, hret, ⟨rfl, rfl⟩, L0⟩)
def s_b_copy_3 (K3 : Nat → Nat → Int32 → Int32 → Int32 → Int32 → XH → Option (Unit × XH)) (x0 : Nat) (x1 : Nat) (x2 : Int32) (x3 : Int32) (x4 : Int32) (x5 : Int32) (h : XH) : Option (Unit × XH) := (if x4 ≤ x5 then (some ((), h)) else (if x1 < hz h ∧ hk h x1 = 1 then (Option.bind (f_b_octet x1 (x2 + x5) h) fun r3 => (if x0 < hz r3.2 ∧ hk r3.2 x0 = 1 then (Option.bind (f_b_putOctet x0 (x3 + x5) r3.1 r3.2) fun r7 => (K3 x0 x1 x2 x3 x4 (x5 + 1) r7.2)) else none)) else none))
set_option maxRecDepth 20000 in
theorem ks_b_copy_3 {l : Launch} {G : XG} {d : Nat} {K3 : Nat → Nat → Int32 → Int32 → Int32 → Int32 → XH → Option (Unit × XH)} {x0 : Nat} {x1 : Nat} {x2 : Int32} {x3 : Int32} {x4 : Int32} {x5 : Int32} {h : XH} {r : Unit × XH} (hK3 : ∀ (x0 : Nat) (x1 : Nat) (x2 : Int32) (x3 : Int32) (x4 : Int32) (x5 : Int32) (h : XH), LY h → K3 x0 x1 x2 x3 x4 x5 h = some r → XR l G xEX1_copy (d + 1) (3, [some (.ref x0), some (.ref x1), some (.int x2), some (.int x3), some (.int x4), some (.int x5)], [], h) (fun C => ∃ v, xRet xEX1_copy C v ∧ (C.2.2.2 = r.2 ∧ v = none) ∧ LY r.2)) (L0 : LY h) (hf : s_b_copy_3 K3 x0 x1 x2 x3 x4 x5 h = some r) : XR l G xEX1_copy (d + 1) (3, [some (.ref x0), some (.ref x1), some (.int x2), some (.int x3), some (.int x4), some (.int x5)], [], h) (fun C => ∃ v, xRet xEX1_copy C v ∧ (C.2.2.2 = r.2 ∧ v = none) ∧ LY r.2) := by
  unfold s_b_copy_3 at hf
  refine XS.go (s_iload rfl rfl) ?_
  refine XS.go (s_iload rfl rfl) ?_
  refine r_icmp_ge (tgt := 32) rfl rfl (fun qc1 => ?_) (fun qc1 => ?_)
  · replace hf := xi_pos hf qc1
    cases hf
    exact XR.retv rfl rfl (fun hret => ⟨_, hret, ⟨rfl, rfl⟩, L0⟩)
  · replace hf := xi_neg hf qc1
    refine XS.go (s_aloadn rfl rfl rfl) ?_
    refine XS.go (s_iloadn rfl rfl rfl) ?_
    refine XS.go (s_iload rfl rfl) ?_
    refine XS.go (s_iadd rfl) ?_
    refine XS.go (s_aloadn rfl rfl rfl) ?_
    refine XS.go (s_iloadn rfl rfl rfl) ?_
    refine XS.go (s_iload rfl rfl) ?_
    refine XS.go (s_iadd rfl) ?_
    replace hf := xi_none hf
    obtain ⟨qk2, hf⟩ := hf
    replace hf := xb_some hf
    obtain ⟨r3, e4, hf⟩ := hf
    refine r_callv rfl xvX1_octet xm1_19 (kf_b_octet (d := d) L0 e4) qk2.1 qk2.2 (by decide) rfl rfl (dl0 (by decide)) (by decide) (Nat.le_of_ble_eq_true rfl) ?_
    rintro _ _ ⟨⟨rfl, rfl⟩, L5⟩
    replace hf := xi_none hf
    obtain ⟨qk6, hf⟩ := hf
    replace hf := xb_some hf
    obtain ⟨r7, e8, hf⟩ := hf
    refine r_callv rfl xvX1_putOctet xm1_23 (kf_b_putOctet (d := d) L5 e8) qk6.1 qk6.2 (by decide) rfl rfl (dl0 (by decide)) (by decide) (Nat.le_of_ble_eq_true rfl) ?_
    rintro _ _ ⟨⟨rfl, rfl⟩, L9⟩
    refine XS.go (XS.lcl (L3 := [some (.ref x0), some (.ref x1), some (.int x2), some (.int x3), some (.int x4), some (.int (x5 + 1))]) (s_inc rfl rfl (Nat.le_of_ble_eq_true rfl)) rfl) ?_
    refine XS.go (s_goto (tgt := 3) rfl rfl) ?_
    exact XR.forget (L2 := [some (.ref x0), some (.ref x1), some (.int x2), some (.int x3), some (.int x4), some (.int (x5 + 1))]) ⟨rfl, ⟨rfl, ⟨rfl, ⟨rfl, ⟨rfl, ⟨rfl, trivial⟩⟩⟩⟩⟩⟩ (hK3 x0 x1 x2 x3 x4 (x5 + 1) _ L9 hf)
def b_b_copy_3 : Nat → Nat → Nat → Int32 → Int32 → Int32 → Int32 → XH → Option (Unit × XH)
  | 0, _, _, _, _, _, _, _ => none
  | n + 1, x0, x1, x2, x3, x4, x5, h => s_b_copy_3 (b_b_copy_3 n) x0 x1 x2 x3 x4 x5 h
theorem kb_b_copy_3 {l : Launch} {G : XG} {d : Nat} {n : Nat} {x0 : Nat} {x1 : Nat} {x2 : Int32} {x3 : Int32} {x4 : Int32} {x5 : Int32} {h : XH} {r : Unit × XH} (L0 : LY h) (hf : b_b_copy_3 n x0 x1 x2 x3 x4 x5 h = some r) : XR l G xEX1_copy (d + 1) (3, [some (.ref x0), some (.ref x1), some (.int x2), some (.int x3), some (.int x4), some (.int x5)], [], h) (fun C => ∃ v, xRet xEX1_copy C v ∧ (C.2.2.2 = r.2 ∧ v = none) ∧ LY r.2) := by
  induction n generalizing x0 x1 x2 x3 x4 x5 h with
  | zero => cases hf
  | succ n ih => exact ks_b_copy_3 (fun x0 x1 x2 x3 x4 x5 h L0 hf => ih (h := h) (x0 := x0) (x1 := x1) (x2 := x2) (x3 := x3) (x4 := x4) (x5 := x5) L0 hf) L0 hf
def f_b_copy (t : Nat) (a0 : Nat) (a1 : Int32) (a2 : Int32) (a3 : Int32) (h : XH) : Option (Unit × XH) := (b_b_copy_3 100000 t a0 a1 a2 a3 0 h)
set_option maxRecDepth 20000 in
theorem kf_b_copy {l : Launch} {G : XG} {d : Nat} {t : Nat} {a0 : Nat} {a1 : Int32} {a2 : Int32} {a3 : Int32} {h : XH} {r : Unit × XH} (L0 : LY h) (hf : f_b_copy t a0 a1 a2 a3 h = some r) : XC l G xEX1_copy (d + 1) [.ref t, .ref a0, .int a1, .int a2, .int a3] h (fun v h2 => (h2 = r.2 ∧ v = none) ∧ LY r.2) := by
  refine XC.virt xvX1_copy (Nat.le_of_ble_eq_true rfl) ?_
  unfold f_b_copy at hf
  refine XR.norm (L3 := [some (.ref t), some (.ref a0), some (.int a1), some (.int a2), some (.int a3), none]) rfl ?_
  refine XS.go (s_iconst (v := 0) rfl rfl) ?_
  refine XS.go (XS.lcl (L3 := [some (.ref t), some (.ref a0), some (.int a1), some (.int a2), some (.int a3), some (.int 0)]) (s_istore rfl (Nat.le_of_ble_eq_true rfl)) rfl) ?_
  exact XR.forget (L2 := [some (.ref t), some (.ref a0), some (.int a1), some (.int a2), some (.int a3), some (.int 0)]) ⟨rfl, ⟨rfl, ⟨rfl, ⟨rfl, ⟨rfl, ⟨rfl, trivial⟩⟩⟩⟩⟩⟩ (kb_b_copy_3 L0 hf)
def f_u_addText (a0 : Nat) (a1 : Int32) (h : XH) : Option (Int32 × XH) := (Option.bind (f_t_roundUp (((hi h 1244 1) + a1) + 1) 4 h) fun r1 => (Option.bind (f_u_hasRoomForThing (r1.1 + 4) r1.2) fun r4 => (if ¬ r4.1 = 0 then (Option.bind (f_u_grow (a1 + 1) 4 r4.2) fun r8 => (Option.bind (f_b_copy 1245 a0 0 r8.1 a1 r8.2) fun r11 => (Option.bind (f_u_grow 4 4 r11.2) fun r14 => (Option.bind (f_b_putNumber 1245 r14.1 4 (Int32.toInt64 a1) r14.2) fun r17 => (Option.bind (f_u_addThing 1 0 (-1) r17.2) fun r20 => (some (r20.1, r20.2))))))) else (some ((-1), r4.2)))))
set_option maxRecDepth 20000 in
theorem kf_u_addText {l : Launch} {G : XG} {d : Nat} {a0 : Nat} {a1 : Int32} {h : XH} {r : Int32 × XH} (L0 : LY h) (hf : f_u_addText a0 a1 h = some r) : XC l G xEX0_addText (d + 2) [.ref 1244, .ref a0, .int a1] h (fun v h2 => (h2 = r.2 ∧ v = some (.int r.1)) ∧ LY r.2) := by
  refine XC.virt xvX0_addText (Nat.le_of_ble_eq_true rfl) ?_
  unfold f_u_addText at hf
  refine XR.norm (L3 := [some (.ref 1244), some (.ref a0), some (.int a1), none]) rfl ?_
  refine XS.go (s_aloadn rfl rfl rfl) ?_
  refine XS.go (s_aloadn rfl rfl rfl) ?_
  refine XS.go (s_getie rfl xf0_18 (LY.lt L0 (by decide)) (LY.k1244 L0) (by decide) rfl rfl) ?_
  refine XS.go (s_iloadn rfl rfl rfl) ?_
  refine XS.go (s_iadd rfl) ?_
  refine XS.go (s_iconst (v := 1) rfl rfl) ?_
  refine XS.go (s_iadd rfl) ?_
  refine XS.go (s_iconst (v := 4) rfl rfl) ?_
  replace hf := xb_some hf
  obtain ⟨r1, e2, hf⟩ := hf
  refine r_callsn rfl xsX11_roundUp (List.mem_of_getElem? (i := 15) rfl) (kf_t_roundUp (d := d) L0 e2) rfl rfl (dl0 (by decide)) (by decide) (Nat.le_of_ble_eq_true rfl) ?_
  rintro _ _ ⟨⟨rfl, rfl⟩, L3⟩
  refine XS.go (s_iconst (v := 4) rfl rfl) ?_
  refine XS.go (s_iadd rfl) ?_
  replace hf := xb_some hf
  obtain ⟨r4, e5, hf⟩ := hf
  refine r_callv rfl xvX0_hasRoomForThing xm0_104 (kf_u_hasRoomForThing (d := d) L3 e5) (LY.lt L3 (by decide)) (LY.k1244 L3) (by decide) rfl rfl (dl0 (by decide)) (by decide) (Nat.le_of_ble_eq_true rfl) ?_
  rintro _ _ ⟨⟨rfl, rfl⟩, L6⟩
  refine r_if_ne (tgt := 23) rfl rfl (fun qc7 => ?_) (fun qc7 => ?_)
  · replace hf := xi_pos hf qc7
    refine XS.go (s_aloadn rfl rfl rfl) ?_
    refine XS.go (s_iloadn rfl rfl rfl) ?_
    refine XS.go (s_iconst (v := 1) rfl rfl) ?_
    refine XS.go (s_iadd rfl) ?_
    refine XS.go (s_iconst (v := 4) rfl rfl) ?_
    replace hf := xb_some hf
    obtain ⟨r8, e9, hf⟩ := hf
    refine r_callv rfl xvX0_grow xm0_107 (kf_u_grow (d := d) L6 e9) (LY.lt L6 (by decide)) (LY.k1244 L6) (by decide) rfl rfl (dl (by decide)) (by decide) (Nat.le_of_ble_eq_true rfl) ?_
    rintro _ _ ⟨⟨rfl, rfl⟩, L10⟩
    refine XS.go (XS.lcl (L3 := [some (.ref 1244), some (.ref a0), some (.int a1), some (.int r8.1)]) (s_istoren rfl rfl (Nat.le_of_ble_eq_true rfl)) rfl) ?_
    refine XS.go (s_aloadn rfl rfl rfl) ?_
    refine XS.go (s_getr rfl xf0_12 (LY.lt L10 (by decide)) (LY.k1244 L10) (by decide) rfl (LY.r1244_0 L10)) ?_
    refine XS.go (s_aloadn rfl rfl rfl) ?_
    refine XS.go (s_iconst (v := 0) rfl rfl) ?_
    refine XS.go (s_iloadn rfl rfl rfl) ?_
    refine XS.go (s_iloadn rfl rfl rfl) ?_
    replace hf := xb_some hf
    obtain ⟨r11, e12, hf⟩ := hf
    refine r_callv rfl xvX1_copy xm0_110 (kf_b_copy (d := d) L10 e12) (LY.lt L10 (by decide)) (LY.k1245 L10) (by decide) rfl rfl (dl (by decide)) (by decide) (Nat.le_of_ble_eq_true rfl) ?_
    rintro _ _ ⟨⟨rfl, rfl⟩, L13⟩
    refine XS.go (s_aloadn rfl rfl rfl) ?_
    refine XS.go (s_getr rfl xf0_12 (LY.lt L13 (by decide)) (LY.k1244 L13) (by decide) rfl (LY.r1244_0 L13)) ?_
    refine XS.go (s_aloadn rfl rfl rfl) ?_
    refine XS.go (s_iconst (v := 4) rfl rfl) ?_
    refine XS.go (s_iconst (v := 4) rfl rfl) ?_
    replace hf := xb_some hf
    obtain ⟨r14, e15, hf⟩ := hf
    refine r_callv rfl xvX0_grow xm0_107 (kf_u_grow (d := d) L13 e15) (LY.lt L13 (by decide)) (LY.k1244 L13) (by decide) rfl rfl (dl (by decide)) (by decide) (Nat.le_of_ble_eq_true rfl) ?_
    rintro _ _ ⟨⟨rfl, rfl⟩, L16⟩
    refine XS.go (s_iconst (v := 4) rfl rfl) ?_
    refine XS.go (s_iloadn rfl rfl rfl) ?_
    refine XS.go (s_i2l rfl) ?_
    replace hf := xb_some hf
    obtain ⟨r17, e18, hf⟩ := hf
    refine r_callv rfl xvX1_putNumber xm0_100 (kf_b_putNumber (d := d) L16 e18) (LY.lt L16 (by decide)) (LY.k1245 L16) (by decide) rfl rfl (dl (by decide)) (by decide) (Nat.le_of_ble_eq_true rfl) ?_
    rintro _ _ ⟨⟨rfl, rfl⟩, L19⟩
    refine XS.go (s_aloadn rfl rfl rfl) ?_
    refine XS.go (s_iconst (v := 1) rfl rfl) ?_
    refine XS.go (s_iconst (v := 0) rfl rfl) ?_
    refine XS.go (s_iconst (v := (-1)) rfl rfl) ?_
    replace hf := xb_some hf
    obtain ⟨r20, e21, hf⟩ := hf
    refine r_callv rfl xvX0_addThing xm0_114 (kf_u_addThing (d := d) L19 e21) (LY.lt L19 (by decide)) (LY.k1244 L19) (by decide) rfl rfl (dl0 (by decide)) (by decide) (Nat.le_of_ble_eq_true rfl) ?_
    rintro _ _ ⟨⟨rfl, rfl⟩, L22⟩
    cases hf
    exact XR.reti rfl rfl (fun hret => ⟨_, hret, ⟨rfl, rfl⟩, L22⟩)
  · replace hf := xi_neg hf qc7
    refine XS.go (s_iconst (v := (-1)) rfl rfl) ?_
    cases hf
    exact XR.reti rfl rfl (fun hret => ⟨_, hret, ⟨rfl, rfl⟩, L6⟩)
def f_w_at (t : Nat) (a0 : Int32) (h : XH) : Option (Int64 × XH) := (if a0 < 0 then (some ((0 : Int64), h)) else (if t < hz h ∧ hk h t = 10 then (Option.bind (hr h t 0) fun b3 => (if b3 < hz h ∧ hk h b3 = 101 then (if (nI (hn h b3)) ≤ a0 then (some ((0 : Int64), h)) else (if 0 ≤ a0 ∧ a0 < nI (hn h b3) ∧ (hn h b3) < 2 ^ 31 then (some ((hj h b3 (Int32.toNatClampNeg a0)), h)) else none)) else none)) else none))
set_option maxRecDepth 20000 in
theorem kf_w_at {l : Launch} {G : XG} {d : Nat} {t : Nat} {a0 : Int32} {h : XH} {r : Int64 × XH} (L0 : LY h) (hf : f_w_at t a0 h = some r) : XC l G xEX10_at d [.ref t, .int a0] h (fun v h2 => (h2 = r.2 ∧ v = some (.long r.1)) ∧ LY r.2) := by
  refine XC.virt xvX10_at (Nat.le_of_ble_eq_true rfl) ?_
  unfold f_w_at at hf
  refine XR.norm (L3 := [some (.ref t), some (.int a0)]) rfl ?_
  refine XS.go (s_iloadn rfl rfl rfl) ?_
  refine r_if_lt (tgt := 22) rfl rfl (fun qc1 => ?_) (fun qc1 => ?_)
  · replace hf := xi_pos hf qc1
    refine XS.go (s_lconst (v := 0) rfl rfl) ?_
    cases hf
    exact XR.retl rfl rfl (fun hret => ⟨_, hret, ⟨rfl, rfl⟩, L0⟩)
  · replace hf := xi_neg hf qc1
    refine XS.go (s_iloadn rfl rfl rfl) ?_
    refine XS.go (s_aloadn rfl rfl rfl) ?_
    replace hf := xi_none hf
    obtain ⟨qk2, hf⟩ := hf
    replace hf := xb_some hf
    obtain ⟨b3, qr4, hf⟩ := hf
    refine XS.go (s_getr rfl xf10_9 qk2.1 qk2.2 (by decide) rfl qr4) ?_
    replace hf := xi_none hf
    obtain ⟨qk5, hf⟩ := hf
    refine XS.go (s_alene (N := hn h b3) rfl qk5.1 qk5.2 rfl (by decide)) ?_
    refine r_icmp_ge (tgt := 22) rfl rfl (fun qc6 => ?_) (fun qc6 => ?_)
    · replace hf := xi_pos hf qc6
      refine XS.go (s_lconst (v := 0) rfl rfl) ?_
      cases hf
      exact XR.retl rfl rfl (fun hret => ⟨_, hret, ⟨rfl, rfl⟩, L0⟩)
    · replace hf := xi_neg hf qc6
      refine XS.go (s_aloadn rfl rfl rfl) ?_
      refine XS.go (s_getr rfl xf10_9 qk2.1 qk2.2 (by decide) rfl qr4) ?_
      refine XS.go (s_iloadn rfl rfl rfl) ?_
      replace hf := xi_none hf
      obtain ⟨qk7, hf⟩ := hf
      refine XS.go (s_lalde rfl qk5.1 qk5.2 (inLit (N := hn h b3) rfl qk7.1 qk7.2.1 qk7.2.2) rfl) ?_
      refine XS.go (s_goto (tgt := 23) rfl rfl) ?_
      cases hf
      exact XR.retl rfl rfl (fun hret => ⟨_, hret, ⟨rfl, rfl⟩, L0⟩)
def f_t_scalarBytes (a0 : Int32) (h : XH) : Option (Int32 × XH) := (if a0 < 0 then (some (1, h)) else (if 11 ≤ a0 then (some (1, h)) else (some ((xSB (Int32.toNatClampNeg a0)), h))))
set_option maxRecDepth 20000 in
theorem kf_t_scalarBytes {l : Launch} {G : XG} {d : Nat} {a0 : Int32} {h : XH} {r : Int32 × XH} (L0 : LY h) (hf : f_t_scalarBytes a0 h = some r) : XC l G xEX11_scalarBytes d [.int a0] h (fun v h2 => (h2 = r.2 ∧ v = some (.int r.1)) ∧ LY r.2) := by
  refine XC.stat xsX11_scalarBytes (Nat.le_of_ble_eq_true rfl) ?_
  unfold f_t_scalarBytes at hf
  refine XR.norm (L3 := [some (.int a0)]) rfl ?_
  refine XS.go (s_iloadn rfl rfl rfl) ?_
  refine r_if_lt (tgt := 20) rfl rfl (fun qc1 => ?_) (fun qc1 => ?_)
  · replace hf := xi_pos hf qc1
    refine XS.go (s_iconst (v := 1) rfl rfl) ?_
    cases hf
    exact XR.reti rfl rfl (fun hret => ⟨_, hret, ⟨rfl, rfl⟩, L0⟩)
  · replace hf := xi_neg hf qc1
    refine XS.go (s_iloadn rfl rfl rfl) ?_
    refine XS.go (s_gets1 rfl (lg_3 104 rfl rfl)) ?_
    refine XS.go (s_len1 rfl) ?_
    refine r_icmp_ge (tgt := 20) rfl rfl (fun qc2 => ?_) (fun qc2 => ?_)
    · replace hf := xi_pos hf qc2
      refine XS.go (s_iconst (v := 1) rfl rfl) ?_
      cases hf
      exact XR.reti rfl rfl (fun hret => ⟨_, hret, ⟨rfl, rfl⟩, L0⟩)
    · replace hf := xi_neg hf qc2
      refine XS.go (s_gets1 rfl (lg_3 104 rfl rfl)) ?_
      refine XS.go (s_iloadn rfl rfl rfl) ?_
      refine XS.go (s_ald1 rfl (in_of (N := 11) (rfl : (11 : Nat) = 11) (by decide) qc1 qc2)) ?_
      refine XS.go (s_goto (tgt := 21) rfl rfl) ?_
      cases hf
      exact XR.reti rfl rfl (fun hret => ⟨_, hret, ⟨rfl, rfl⟩, L0⟩)
def f_d_leafPlace (t : Nat) (a0 : Int32) (h : XH) : Option (Int32 × XH) := (if a0 < 0 then (some (0, h)) else (if t < hz h ∧ hk h t = 2 then (Option.bind (hr h t 10) fun b3 => (if b3 < hz h ∧ hk h b3 = 100 then (if (nI (hn h b3)) ≤ a0 then (some (0, h)) else (if 0 ≤ a0 ∧ a0 < nI (hn h b3) ∧ (hn h b3) < 2 ^ 31 then (some ((hi h b3 (Int32.toNatClampNeg a0)), h)) else none)) else none)) else none))
set_option maxRecDepth 20000 in
theorem kf_d_leafPlace {l : Launch} {G : XG} {d : Nat} {t : Nat} {a0 : Int32} {h : XH} {r : Int32 × XH} (L0 : LY h) (hf : f_d_leafPlace t a0 h = some r) : XC l G xEX2_leafPlace d [.ref t, .int a0] h (fun v h2 => (h2 = r.2 ∧ v = some (.int r.1)) ∧ LY r.2) := by
  refine XC.virt xvX2_leafPlace (Nat.le_of_ble_eq_true rfl) ?_
  unfold f_d_leafPlace at hf
  refine XR.norm (L3 := [some (.ref t), some (.int a0)]) rfl ?_
  refine XS.go (s_iloadn rfl rfl rfl) ?_
  refine r_if_lt (tgt := 22) rfl rfl (fun qc1 => ?_) (fun qc1 => ?_)
  · replace hf := xi_pos hf qc1
    refine XS.go (s_iconst (v := 0) rfl rfl) ?_
    cases hf
    exact XR.reti rfl rfl (fun hret => ⟨_, hret, ⟨rfl, rfl⟩, L0⟩)
  · replace hf := xi_neg hf qc1
    refine XS.go (s_iloadn rfl rfl rfl) ?_
    refine XS.go (s_aloadn rfl rfl rfl) ?_
    replace hf := xi_none hf
    obtain ⟨qk2, hf⟩ := hf
    replace hf := xb_some hf
    obtain ⟨b3, qr4, hf⟩ := hf
    refine XS.go (s_getr rfl xf2_51 qk2.1 qk2.2 (by decide) rfl qr4) ?_
    replace hf := xi_none hf
    obtain ⟨qk5, hf⟩ := hf
    refine XS.go (s_alene (N := hn h b3) rfl qk5.1 qk5.2 rfl (by decide)) ?_
    refine r_icmp_ge (tgt := 22) rfl rfl (fun qc6 => ?_) (fun qc6 => ?_)
    · replace hf := xi_pos hf qc6
      refine XS.go (s_iconst (v := 0) rfl rfl) ?_
      cases hf
      exact XR.reti rfl rfl (fun hret => ⟨_, hret, ⟨rfl, rfl⟩, L0⟩)
    · replace hf := xi_neg hf qc6
      refine XS.go (s_aloadn rfl rfl rfl) ?_
      refine XS.go (s_getr rfl xf2_51 qk2.1 qk2.2 (by decide) rfl qr4) ?_
      refine XS.go (s_iloadn rfl rfl rfl) ?_
      replace hf := xi_none hf
      obtain ⟨qk7, hf⟩ := hf
      refine XS.go (s_ialde rfl qk5.1 qk5.2 (inLit (N := hn h b3) rfl qk7.1 qk7.2.1 qk7.2.2) rfl) ?_
      refine XS.go (s_goto (tgt := 23) rfl rfl) ?_
      cases hf
      exact XR.reti rfl rfl (fun hret => ⟨_, hret, ⟨rfl, rfl⟩, L0⟩)
def f_d_leafScalar (t : Nat) (a0 : Int32) (h : XH) : Option (Int32 × XH) := (if a0 < 0 then (some ((-1), h)) else (if t < hz h ∧ hk h t = 2 then (Option.bind (hr h t 9) fun b3 => (if b3 < hz h ∧ hk h b3 = 100 then (if (nI (hn h b3)) ≤ a0 then (some ((-1), h)) else (if 0 ≤ a0 ∧ a0 < nI (hn h b3) ∧ (hn h b3) < 2 ^ 31 then (some ((hi h b3 (Int32.toNatClampNeg a0)), h)) else none)) else none)) else none))
set_option maxRecDepth 20000 in
theorem kf_d_leafScalar {l : Launch} {G : XG} {d : Nat} {t : Nat} {a0 : Int32} {h : XH} {r : Int32 × XH} (L0 : LY h) (hf : f_d_leafScalar t a0 h = some r) : XC l G xEX2_leafScalar d [.ref t, .int a0] h (fun v h2 => (h2 = r.2 ∧ v = some (.int r.1)) ∧ LY r.2) := by
  refine XC.virt xvX2_leafScalar (Nat.le_of_ble_eq_true rfl) ?_
  unfold f_d_leafScalar at hf
  refine XR.norm (L3 := [some (.ref t), some (.int a0)]) rfl ?_
  refine XS.go (s_iloadn rfl rfl rfl) ?_
  refine r_if_lt (tgt := 22) rfl rfl (fun qc1 => ?_) (fun qc1 => ?_)
  · replace hf := xi_pos hf qc1
    refine XS.go (s_iconst (v := (-1)) rfl rfl) ?_
    cases hf
    exact XR.reti rfl rfl (fun hret => ⟨_, hret, ⟨rfl, rfl⟩, L0⟩)
  · replace hf := xi_neg hf qc1
    refine XS.go (s_iloadn rfl rfl rfl) ?_
    refine XS.go (s_aloadn rfl rfl rfl) ?_
    replace hf := xi_none hf
    obtain ⟨qk2, hf⟩ := hf
    replace hf := xb_some hf
    obtain ⟨b3, qr4, hf⟩ := hf
    refine XS.go (s_getr rfl xf2_47 qk2.1 qk2.2 (by decide) rfl qr4) ?_
    replace hf := xi_none hf
    obtain ⟨qk5, hf⟩ := hf
    refine XS.go (s_alene (N := hn h b3) rfl qk5.1 qk5.2 rfl (by decide)) ?_
    refine r_icmp_ge (tgt := 22) rfl rfl (fun qc6 => ?_) (fun qc6 => ?_)
    · replace hf := xi_pos hf qc6
      refine XS.go (s_iconst (v := (-1)) rfl rfl) ?_
      cases hf
      exact XR.reti rfl rfl (fun hret => ⟨_, hret, ⟨rfl, rfl⟩, L0⟩)
    · replace hf := xi_neg hf qc6
      refine XS.go (s_aloadn rfl rfl rfl) ?_
      refine XS.go (s_getr rfl xf2_47 qk2.1 qk2.2 (by decide) rfl qr4) ?_
      refine XS.go (s_iloadn rfl rfl rfl) ?_
      replace hf := xi_none hf
      obtain ⟨qk7, hf⟩ := hf
      refine XS.go (s_ialde rfl qk5.1 qk5.2 (inLit (N := hn h b3) rfl qk7.1 qk7.2.1 qk7.2.2) rfl) ?_
      refine XS.go (s_goto (tgt := 23) rfl rfl) ?_
      cases hf
      exact XR.reti rfl rfl (fun hret => ⟨_, hret, ⟨rfl, rfl⟩, L0⟩)
def s_u_putStruct_17 (K17 : Nat → Int32 → Nat → Int32 → Int32 → XH → Option (Unit × XH)) (x1 : Nat) (x2 : Int32) (x3 : Nat) (x5 : Int32) (x6 : Int32) (h : XH) : Option (Unit × XH) := (if x1 < hz h ∧ hk h x1 = 2 then (if (hi h x1 11) ≤ x6 then (some ((), h)) else (Option.bind (f_d_leafScalar x1 x6 h) fun r3 => (Option.bind (f_t_scalarBytes r3.1 r3.2) fun r6 => (if x1 < hz r6.2 ∧ hk r6.2 x1 = 2 then (Option.bind (f_d_leafPlace x1 x6 r6.2) fun r10 => (if x3 < hz r10.2 ∧ hk r10.2 x3 = 10 then (Option.bind (f_w_at x3 (x5 + x6) r10.2) fun r14 => (Option.bind (f_b_putNumber 1245 (x2 + r10.1) r6.1 r14.1 r14.2) fun r17 => (K17 x1 x2 x3 x5 (x6 + 1) r17.2))) else none)) else none)))) else none)
set_option maxRecDepth 20000 in
theorem ks_u_putStruct_17 {l : Launch} {G : XG} {d : Nat} {K17 : Nat → Int32 → Nat → Int32 → Int32 → XH → Option (Unit × XH)} {x1 : Nat} {x2 : Int32} {x3 : Nat} {x5 : Int32} {x6 : Int32} {h : XH} {r : Unit × XH} (hK17 : ∀ (x1 : Nat) (x2 : Int32) (x3 : Nat) (x5 : Int32) (x6 : Int32) (h : XH), LY h → K17 x1 x2 x3 x5 x6 h = some r → XR l G xEX0_putStruct (d + 2) (17, [some (.ref 1244), some (.ref x1), some (.int x2), some (.ref x3), none, some (.int x5), some (.int x6), none], [], h) (fun C => ∃ v, xRet xEX0_putStruct C v ∧ (C.2.2.2 = r.2 ∧ v = none) ∧ LY r.2)) (L0 : LY h) (hf : s_u_putStruct_17 K17 x1 x2 x3 x5 x6 h = some r) : XR l G xEX0_putStruct (d + 2) (17, [some (.ref 1244), some (.ref x1), some (.int x2), some (.ref x3), none, some (.int x5), some (.int x6), none], [], h) (fun C => ∃ v, xRet xEX0_putStruct C v ∧ (C.2.2.2 = r.2 ∧ v = none) ∧ LY r.2) := by
  unfold s_u_putStruct_17 at hf
  refine XS.go (s_iload rfl rfl) ?_
  refine XS.go (s_aloadn rfl rfl rfl) ?_
  replace hf := xi_none hf
  obtain ⟨qk1, hf⟩ := hf
  refine XS.go (s_getie rfl xf0_157 qk1.1 qk1.2 (by decide) rfl rfl) ?_
  refine r_icmp_ge (tgt := 69) rfl rfl (fun qc2 => ?_) (fun qc2 => ?_)
  · replace hf := xi_pos hf qc2
    cases hf
    exact XR.retv rfl rfl (fun hret => ⟨_, hret, ⟨rfl, rfl⟩, L0⟩)
  · replace hf := xi_neg hf qc2
    refine XS.go (s_aloadn rfl rfl rfl) ?_
    refine XS.go (s_iload rfl rfl) ?_
    replace hf := xb_some hf
    obtain ⟨r3, e4, hf⟩ := hf
    refine r_callv rfl xvX2_leafScalar xm0_160 (kf_d_leafScalar (d := d) L0 e4) qk1.1 qk1.2 (by decide) rfl rfl (dl0 (by decide)) (by decide) (Nat.le_of_ble_eq_true rfl) ?_
    rintro _ _ ⟨⟨rfl, rfl⟩, L5⟩
    replace hf := xb_some hf
    obtain ⟨r6, e7, hf⟩ := hf
    refine r_callsn rfl xsX11_scalarBytes (List.mem_of_getElem? (i := 16) rfl) (kf_t_scalarBytes (d := d) L5 e7) rfl rfl (dl0 (by decide)) (by decide) (Nat.le_of_ble_eq_true rfl) ?_
    rintro _ _ ⟨⟨rfl, rfl⟩, L8⟩
    refine XS.go (XS.lcl (L3 := [some (.ref 1244), some (.ref x1), some (.int x2), some (.ref x3), none, some (.int x5), some (.int x6), some (.int r6.1)]) (s_istore rfl (Nat.le_of_ble_eq_true rfl)) rfl) ?_
    refine XS.go (s_aloadn rfl rfl rfl) ?_
    refine XS.go (s_getr rfl xf0_12 (LY.lt L8 (by decide)) (LY.k1244 L8) (by decide) rfl (LY.r1244_0 L8)) ?_
    refine XS.go (s_iloadn rfl rfl rfl) ?_
    refine XS.go (s_aloadn rfl rfl rfl) ?_
    refine XS.go (s_iload rfl rfl) ?_
    replace hf := xi_none hf
    obtain ⟨qk9, hf⟩ := hf
    replace hf := xb_some hf
    obtain ⟨r10, e11, hf⟩ := hf
    refine r_callv rfl xvX2_leafPlace xm0_163 (kf_d_leafPlace (d := d) L8 e11) qk9.1 qk9.2 (by decide) rfl rfl (dl0 (by decide)) (by decide) (Nat.le_of_ble_eq_true rfl) ?_
    rintro _ _ ⟨⟨rfl, rfl⟩, L12⟩
    refine XS.go (s_iadd rfl) ?_
    refine XS.go (s_iload rfl rfl) ?_
    refine XS.go (s_aloadn rfl rfl rfl) ?_
    refine XS.go (s_iload rfl rfl) ?_
    refine XS.go (s_iload rfl rfl) ?_
    refine XS.go (s_iadd rfl) ?_
    replace hf := xi_none hf
    obtain ⟨qk13, hf⟩ := hf
    replace hf := xb_some hf
    obtain ⟨r14, e15, hf⟩ := hf
    refine r_callv rfl xvX10_at xm0_134 (kf_w_at (d := d) L12 e15) qk13.1 qk13.2 (by decide) rfl rfl (dl0 (by decide)) (by decide) (Nat.le_of_ble_eq_true rfl) ?_
    rintro _ _ ⟨⟨rfl, rfl⟩, L16⟩
    replace hf := xb_some hf
    obtain ⟨r17, e18, hf⟩ := hf
    refine r_callv rfl xvX1_putNumber xm0_100 (kf_b_putNumber (d := d) L16 e18) (LY.lt L16 (by decide)) (LY.k1245 L16) (by decide) rfl rfl (dl (by decide)) (by decide) (Nat.le_of_ble_eq_true rfl) ?_
    rintro _ _ ⟨⟨rfl, rfl⟩, L19⟩
    refine XS.go (XS.lcl (L3 := [some (.ref 1244), some (.ref x1), some (.int x2), some (.ref x3), none, some (.int x5), some (.int (x6 + 1)), some (.int r6.1)]) (s_inc rfl rfl (Nat.le_of_ble_eq_true rfl)) rfl) ?_
    refine XS.go (s_goto (tgt := 17) rfl rfl) ?_
    exact XR.forget (L2 := [some (.ref 1244), some (.ref x1), some (.int x2), some (.ref x3), none, some (.int x5), some (.int (x6 + 1)), none]) ⟨rfl, ⟨rfl, ⟨rfl, ⟨rfl, ⟨rfl, ⟨rfl, trivial⟩⟩⟩⟩⟩⟩ (hK17 x1 x2 x3 x5 (x6 + 1) _ L19 hf)
def b_u_putStruct_17 : Nat → Nat → Int32 → Nat → Int32 → Int32 → XH → Option (Unit × XH)
  | 0, _, _, _, _, _, _ => none
  | n + 1, x1, x2, x3, x5, x6, h => s_u_putStruct_17 (b_u_putStruct_17 n) x1 x2 x3 x5 x6 h
theorem kb_u_putStruct_17 {l : Launch} {G : XG} {d : Nat} {n : Nat} {x1 : Nat} {x2 : Int32} {x3 : Nat} {x5 : Int32} {x6 : Int32} {h : XH} {r : Unit × XH} (L0 : LY h) (hf : b_u_putStruct_17 n x1 x2 x3 x5 x6 h = some r) : XR l G xEX0_putStruct (d + 2) (17, [some (.ref 1244), some (.ref x1), some (.int x2), some (.ref x3), none, some (.int x5), some (.int x6), none], [], h) (fun C => ∃ v, xRet xEX0_putStruct C v ∧ (C.2.2.2 = r.2 ∧ v = none) ∧ LY r.2) := by
  induction n generalizing x1 x2 x3 x5 x6 h with
  | zero => cases hf
  | succ n ih => exact ks_u_putStruct_17 (fun x1 x2 x3 x5 x6 h L0 hf => ih (h := h) (x1 := x1) (x2 := x2) (x3 := x3) (x5 := x5) (x6 := x6) L0 hf) L0 hf
def f_u_putStruct (a0 : Nat) (a1 : Int32) (a2 : Nat) (a3 : Int32) (h : XH) : Option (Unit × XH) := (if a0 < hz h ∧ hk h a0 = 2 then (b_u_putStruct_17 100000 a0 a1 a2 (a3 * (hi h a0 11)) 0 h) else none)
set_option maxRecDepth 20000 in
theorem kf_u_putStruct {l : Launch} {G : XG} {d : Nat} {a0 : Nat} {a1 : Int32} {a2 : Nat} {a3 : Int32} {h : XH} {r : Unit × XH} (L0 : LY h) (hf : f_u_putStruct a0 a1 a2 a3 h = some r) : XC l G xEX0_putStruct (d + 2) [.ref 1244, .ref a0, .int a1, .ref a2, .int a3] h (fun v h2 => (h2 = r.2 ∧ v = none) ∧ LY r.2) := by
  refine XC.virt xvX0_putStruct (Nat.le_of_ble_eq_true rfl) ?_
  unfold f_u_putStruct at hf
  refine XR.norm (L3 := [some (.ref 1244), some (.ref a0), some (.int a1), some (.ref a2), some (.int a3), none, none, none]) rfl ?_
  refine XS.go (s_aloadn rfl rfl rfl) ?_
  refine XS.go (s_ifnonnull_r (tgt := 5) rfl rfl) ?_
  refine XS.go (s_iload rfl rfl) ?_
  refine XS.go (s_aloadn rfl rfl rfl) ?_
  replace hf := xi_none hf
  obtain ⟨qk20, hf⟩ := hf
  refine XS.go (s_getie rfl xf0_157 qk20.1 qk20.2 (by decide) rfl rfl) ?_
  refine XS.go (s_imul rfl) ?_
  refine XS.go (XS.lcl (L3 := [some (.ref 1244), some (.ref a0), some (.int a1), some (.ref a2), some (.int a3), some (.int (a3 * (hi h a0 11))), none, none]) (s_istore rfl (Nat.le_of_ble_eq_true rfl)) rfl) ?_
  refine XS.go (s_iconst (v := 0) rfl rfl) ?_
  refine XS.go (XS.lcl (L3 := [some (.ref 1244), some (.ref a0), some (.int a1), some (.ref a2), some (.int a3), some (.int (a3 * (hi h a0 11))), some (.int 0), none]) (s_istore rfl (Nat.le_of_ble_eq_true rfl)) rfl) ?_
  exact XR.forget (L2 := [some (.ref 1244), some (.ref a0), some (.int a1), some (.ref a2), none, some (.int (a3 * (hi h a0 11))), some (.int 0), none]) ⟨rfl, ⟨rfl, ⟨rfl, ⟨rfl, ⟨rfl, ⟨rfl, trivial⟩⟩⟩⟩⟩⟩ (kb_u_putStruct_17 L0 hf)
def b_g_at_31 (y0 : Option Nat) (h : XH) : Option (Option Nat × XH) := (some (y0, h))
set_option maxRecDepth 20000 in
theorem kb_g_at_31 {l : Launch} {G : XG} {d : Nat} {y0 : Option Nat} {h : XH} {r : Option Nat × XH} (L0 : LY h) (hf : b_g_at_31 y0 h = some r) : XR l G xEX4_at d (31, [none, none], [(va_rf y0)], h) (fun C => ∃ v, xRet xEX4_at C v ∧ (C.2.2.2 = r.2 ∧ v = some (va_rf r.1)) ∧ LY r.2) := by
  unfold b_g_at_31 at hf
  cases hf
  exact XR.reta (o := y0) rfl rfl (fun hret => ⟨_, hret, ⟨rfl, rfl⟩, L0⟩)
def b_g_at_30 (h : XH) : Option (Option Nat × XH) := (b_g_at_31 none h)
set_option maxRecDepth 20000 in
theorem kb_g_at_30 {l : Launch} {G : XG} {d : Nat} {h : XH} {r : Option Nat × XH} (L0 : LY h) (hf : b_g_at_30 h = some r) : XR l G xEX4_at d (30, [none, none], [], h) (fun C => ∃ v, xRet xEX4_at C v ∧ (C.2.2.2 = r.2 ∧ v = some (va_rf r.1)) ∧ LY r.2) := by
  unfold b_g_at_30 at hf
  refine XS.go (s_null rfl) ?_
  exact XR.forget (L2 := [none, none]) trivial (kb_g_at_31 L0 hf)
def f_g_at (t : Nat) (a0 : Int32) (h : XH) : Option (Option Nat × XH) := (if a0 < 0 then (b_g_at_30 h) else (if t < hz h ∧ hk h t = 4 then (if (hi h t 1) ≤ a0 then (b_g_at_30 h) else (Option.bind (hr h t 0) fun b4 => (if b4 < hz h ∧ hk h b4 = 105 then (if (nI (hn h b4)) ≤ a0 then (b_g_at_30 h) else (if 0 ≤ a0 ∧ a0 < nI (hn h b4) ∧ (hn h b4) < 2 ^ 31 then (Option.bind (hr h b4 (Int32.toNatClampNeg a0)) fun b9 => (b_g_at_31 (some b9) h)) else none)) else none))) else none))
set_option maxRecDepth 20000 in
theorem kf_g_at {l : Launch} {G : XG} {d : Nat} {t : Nat} {a0 : Int32} {h : XH} {r : Option Nat × XH} (L0 : LY h) (hf : f_g_at t a0 h = some r) : XC l G xEX4_at d [.ref t, .int a0] h (fun v h2 => (h2 = r.2 ∧ v = some (va_rf r.1)) ∧ LY r.2) := by
  refine XC.virt xvX4_at (Nat.le_of_ble_eq_true rfl) ?_
  unfold f_g_at at hf
  refine XR.norm (L3 := [some (.ref t), some (.int a0)]) rfl ?_
  refine XS.go (s_iloadn rfl rfl rfl) ?_
  refine r_if_lt (tgt := 30) rfl rfl (fun qc1 => ?_) (fun qc1 => ?_)
  · replace hf := xi_pos hf qc1
    exact XR.forget (L2 := [none, none]) trivial (kb_g_at_30 L0 hf)
  · replace hf := xi_neg hf qc1
    refine XS.go (s_iloadn rfl rfl rfl) ?_
    refine XS.go (s_aloadn rfl rfl rfl) ?_
    replace hf := xi_none hf
    obtain ⟨qk2, hf⟩ := hf
    refine XS.go (s_getie rfl xf4_7 qk2.1 qk2.2 (by decide) rfl rfl) ?_
    refine r_icmp_ge (tgt := 30) rfl rfl (fun qc3 => ?_) (fun qc3 => ?_)
    · replace hf := xi_pos hf qc3
      exact XR.forget (L2 := [none, none]) trivial (kb_g_at_30 L0 hf)
    · replace hf := xi_neg hf qc3
      refine XS.go (s_iloadn rfl rfl rfl) ?_
      refine XS.go (s_aloadn rfl rfl rfl) ?_
      replace hf := xb_some hf
      obtain ⟨b4, qr5, hf⟩ := hf
      refine XS.go (s_getr rfl xf4_15 qk2.1 qk2.2 (by decide) rfl qr5) ?_
      replace hf := xi_none hf
      obtain ⟨qk6, hf⟩ := hf
      refine XS.go (s_alene (N := hn h b4) rfl qk6.1 qk6.2 rfl (by decide)) ?_
      refine r_icmp_ge (tgt := 30) rfl rfl (fun qc7 => ?_) (fun qc7 => ?_)
      · replace hf := xi_pos hf qc7
        exact XR.forget (L2 := [none, none]) trivial (kb_g_at_30 L0 hf)
      · replace hf := xi_neg hf qc7
        refine XS.go (s_aloadn rfl rfl rfl) ?_
        refine XS.go (s_getr rfl xf4_15 qk2.1 qk2.2 (by decide) rfl qr5) ?_
        refine XS.go (s_iloadn rfl rfl rfl) ?_
        replace hf := xi_none hf
        obtain ⟨qk8, hf⟩ := hf
        replace hf := xb_some hf
        obtain ⟨b9, qr10, hf⟩ := hf
        refine XS.go (s_aald105e rfl qk6.1 qk6.2 (inLit (N := hn h b4) rfl qk8.1 qk8.2.1 qk8.2.2) qr10) ?_
        refine XS.go (s_goto (tgt := 31) rfl rfl) ?_
        exact XR.forget (L2 := [none, none]) trivial (kb_g_at_31 L0 hf)
def f_u_putContent (a0 : Nat) (a1 : Int32) (a2 : Int32) (a3 : Int32) (a4 : Nat) (a5 : Int32) (h : XH) : Option (Unit × XH) := (if ¬ a2 = 0 then (if ¬ a2 = 2 then (if a4 < hz h ∧ hk h a4 = 10 then (Option.bind (f_w_at a4 a5 h) fun r4 => (Option.bind (f_u_putReference a1 r4.1 r4.2) fun r7 => (some ((), r7.2)))) else none) else (if a0 < hz h ∧ hk h a0 = 9 then (Option.bind (hr h a0 0) fun b11 => (if b11 < hz h ∧ hk h b11 = 4 then (Option.bind (f_g_at b11 a3 h) fun r14 => (Option.bind (r14.1) fun b17 => (Option.bind (f_u_putStruct b17 a1 a4 a5 r14.2) fun r19 => (some ((), r19.2))))) else none)) else none)) else (Option.bind (f_t_scalarBytes a3 h) fun r22 => (if a4 < hz r22.2 ∧ hk r22.2 a4 = 10 then (Option.bind (f_w_at a4 a5 r22.2) fun r26 => (Option.bind (f_b_putNumber 1245 a1 r22.1 r26.1 r26.2) fun r29 => (some ((), r29.2)))) else none)))
set_option maxRecDepth 20000 in
theorem kf_u_putContent {l : Launch} {G : XG} {d : Nat} {a0 : Nat} {a1 : Int32} {a2 : Int32} {a3 : Int32} {a4 : Nat} {a5 : Int32} {h : XH} {r : Unit × XH} (L0 : LY h) (hf : f_u_putContent a0 a1 a2 a3 a4 a5 h = some r) : XC l G xEX0_putContent (d + 3) [.ref 1244, .ref a0, .int a1, .int a2, .int a3, .ref a4, .int a5] h (fun v h2 => (h2 = r.2 ∧ v = none) ∧ LY r.2) := by
  refine XC.virt xvX0_putContent (Nat.le_of_ble_eq_true rfl) ?_
  unfold f_u_putContent at hf
  refine XR.norm (L3 := [some (.ref 1244), some (.ref a0), some (.int a1), some (.int a2), some (.int a3), some (.ref a4), some (.int a5)]) rfl ?_
  refine XS.go (s_iloadn rfl rfl rfl) ?_
  refine r_if_ne (tgt := 27) rfl rfl (fun qc1 => ?_) (fun qc1 => ?_)
  · replace hf := xi_pos hf qc1
    refine XS.go (s_iloadn rfl rfl rfl) ?_
    refine XS.go (s_iconst (v := 2) rfl rfl) ?_
    refine r_icmp_ne (tgt := 53) rfl rfl (fun qc2 => ?_) (fun qc2 => ?_)
    · replace hf := xi_pos hf qc2
      refine XS.go (s_aloadn rfl rfl rfl) ?_
      refine XS.go (s_iloadn rfl rfl rfl) ?_
      refine XS.go (s_aload rfl rfl) ?_
      refine XS.go (s_iload rfl rfl) ?_
      replace hf := xi_none hf
      obtain ⟨qk3, hf⟩ := hf
      replace hf := xb_some hf
      obtain ⟨r4, e5, hf⟩ := hf
      refine r_callv rfl xvX10_at xm0_134 (kf_w_at (d := d) L0 e5) qk3.1 qk3.2 (by decide) rfl rfl (dl0 (by decide)) (by decide) (Nat.le_of_ble_eq_true rfl) ?_
      rintro _ _ ⟨⟨rfl, rfl⟩, L6⟩
      replace hf := xb_some hf
      obtain ⟨r7, e8, hf⟩ := hf
      refine r_callv rfl xvX0_putReference xm0_153 (kf_u_putReference (d := d) L6 e8) (LY.lt L6 (by decide)) (LY.k1244 L6) (by decide) rfl rfl (dl (by decide)) (by decide) (Nat.le_of_ble_eq_true rfl) ?_
      rintro _ _ ⟨⟨rfl, rfl⟩, L9⟩
      cases hf
      exact XR.retv rfl rfl (fun hret => ⟨_, hret, ⟨rfl, rfl⟩, L9⟩)
    · replace hf := xi_neg hf qc2
      refine XS.go (s_aloadn rfl rfl rfl) ?_
      refine XS.go (s_aloadn rfl rfl rfl) ?_
      replace hf := xi_none hf
      obtain ⟨qk10, hf⟩ := hf
      replace hf := xb_some hf
      obtain ⟨b11, qr12, hf⟩ := hf
      refine XS.go (s_getr rfl xf0_140 qk10.1 qk10.2 (by decide) rfl qr12) ?_
      refine XS.go (s_iload rfl rfl) ?_
      replace hf := xi_none hf
      obtain ⟨qk13, hf⟩ := hf
      replace hf := xb_some hf
      obtain ⟨r14, e15, hf⟩ := hf
      refine r_callv rfl xvX4_at xm0_144 (kf_g_at (d := d) L0 e15) qk13.1 qk13.2 (by decide) rfl rfl (dl0 (by decide)) (by decide) (Nat.le_of_ble_eq_true rfl) ?_
      rintro _ _ ⟨⟨rfl, rfl⟩, L16⟩
      refine XS.go (s_iloadn rfl rfl rfl) ?_
      refine XS.go (s_aload rfl rfl) ?_
      refine XS.go (s_iload rfl rfl) ?_
      replace hf := xb_some hf
      obtain ⟨b17, qo18, hf⟩ := hf
      try rw [qo18]
      replace hf := xb_some hf
      obtain ⟨r19, e20, hf⟩ := hf
      refine r_callv rfl xvX0_putStruct xm0_149 (kf_u_putStruct (d := d) L16 e20) (LY.lt L16 (by decide)) (LY.k1244 L16) (by decide) rfl rfl (dl (by decide)) (by decide) (Nat.le_of_ble_eq_true rfl) ?_
      rintro _ _ ⟨⟨rfl, rfl⟩, L21⟩
      refine XS.go (s_goto (tgt := 65) rfl rfl) ?_
      cases hf
      exact XR.retv rfl rfl (fun hret => ⟨_, hret, ⟨rfl, rfl⟩, L21⟩)
  · replace hf := xi_neg hf qc1
    refine XS.go (s_aloadn rfl rfl rfl) ?_
    refine XS.go (s_getr rfl xf0_12 (LY.lt L0 (by decide)) (LY.k1244 L0) (by decide) rfl (LY.r1244_0 L0)) ?_
    refine XS.go (s_iloadn rfl rfl rfl) ?_
    refine XS.go (s_iload rfl rfl) ?_
    replace hf := xb_some hf
    obtain ⟨r22, e23, hf⟩ := hf
    refine r_callsn rfl xsX11_scalarBytes (List.mem_of_getElem? (i := 16) rfl) (kf_t_scalarBytes (d := d) L0 e23) rfl rfl (dl0 (by decide)) (by decide) (Nat.le_of_ble_eq_true rfl) ?_
    rintro _ _ ⟨⟨rfl, rfl⟩, L24⟩
    refine XS.go (s_aload rfl rfl) ?_
    refine XS.go (s_iload rfl rfl) ?_
    replace hf := xi_none hf
    obtain ⟨qk25, hf⟩ := hf
    replace hf := xb_some hf
    obtain ⟨r26, e27, hf⟩ := hf
    refine r_callv rfl xvX10_at xm0_134 (kf_w_at (d := d) L24 e27) qk25.1 qk25.2 (by decide) rfl rfl (dl0 (by decide)) (by decide) (Nat.le_of_ble_eq_true rfl) ?_
    rintro _ _ ⟨⟨rfl, rfl⟩, L28⟩
    replace hf := xb_some hf
    obtain ⟨r29, e30, hf⟩ := hf
    refine r_callv rfl xvX1_putNumber xm0_100 (kf_b_putNumber (d := d) L28 e30) (LY.lt L28 (by decide)) (LY.k1245 L28) (by decide) rfl rfl (dl (by decide)) (by decide) (Nat.le_of_ble_eq_true rfl) ?_
    rintro _ _ ⟨⟨rfl, rfl⟩, L31⟩
    refine XS.go (s_goto (tgt := 65) rfl rfl) ?_
    cases hf
    exact XR.retv rfl rfl (fun hret => ⟨_, hret, ⟨rfl, rfl⟩, L31⟩)
def b_s_alignmentOf_26 (y0 : Option Nat) (h : XH) : Option (Int32 × XH) := (Option.elim (y0) (some (4, h)) fun b2 => (if b2 < hz h ∧ hk h b2 = 2 then (some ((hi h b2 7), h)) else none))
set_option maxRecDepth 20000 in
theorem kb_s_alignmentOf_26 {l : Launch} {G : XG} {d : Nat} {y0 : Option Nat} {h : XH} {r : Int32 × XH} (L0 : LY h) (hf : b_s_alignmentOf_26 y0 h = some r) : XR l G xEX9_alignmentOf (d + 1) (26, [none, none, none, none], [(va_rf y0)], h) (fun C => ∃ v, xRet xEX9_alignmentOf C v ∧ (C.2.2.2 = r.2 ∧ v = some (.int r.1)) ∧ LY r.2) := by
  unfold b_s_alignmentOf_26 at hf
  refine XS.go (XS.lcl (L3 := [none, none, none, some (va_rf y0)]) (s_astorenO rfl rfl (Nat.le_of_ble_eq_true rfl)) rfl) ?_
  refine XS.go (s_aloadnO rfl rfl rfl) ?_
  refine r_ifnonnull (tgt := 35) rfl rfl (fun qn1 => ?_) (fun b2 qn1 => ?_)
  · replace hf := xo_none hf qn1
    try rw [qn1]
    refine XS.go (s_iconst (v := 4) rfl rfl) ?_
    refine XS.go (s_goto (tgt := 39) rfl rfl) ?_
    cases hf
    exact XR.reti rfl rfl (fun hret => ⟨_, hret, ⟨rfl, rfl⟩, L0⟩)
  · replace hf := xo_some hf qn1
    try rw [qn1]
    refine XS.go (s_aloadn rfl rfl rfl) ?_
    replace hf := xi_none hf
    obtain ⟨qk3, hf⟩ := hf
    refine XS.go (s_getie rfl xf9_64 qk3.1 qk3.2 (by decide) rfl rfl) ?_
    cases hf
    exact XR.reti rfl rfl (fun hret => ⟨_, hret, ⟨rfl, rfl⟩, L0⟩)
def f_s_alignmentOf (t : Nat) (a0 : Int32) (a1 : Int32) (h : XH) : Option (Int32 × XH) := (if ¬ a0 = 0 then (if ¬ a0 = 2 then (b_s_alignmentOf_26 none h) else (if t < hz h ∧ hk h t = 9 then (Option.bind (hr h t 0) fun b7 => (if b7 < hz h ∧ hk h b7 = 4 then (Option.bind (f_g_at b7 a1 h) fun r10 => (b_s_alignmentOf_26 r10.1 r10.2)) else none)) else none)) else (Option.bind (f_t_scalarBytes a1 h) fun r13 => (some (r13.1, r13.2))))
set_option maxRecDepth 20000 in
theorem kf_s_alignmentOf {l : Launch} {G : XG} {d : Nat} {t : Nat} {a0 : Int32} {a1 : Int32} {h : XH} {r : Int32 × XH} (L0 : LY h) (hf : f_s_alignmentOf t a0 a1 h = some r) : XC l G xEX9_alignmentOf (d + 1) [.ref t, .int a0, .int a1] h (fun v h2 => (h2 = r.2 ∧ v = some (.int r.1)) ∧ LY r.2) := by
  refine XC.virt xvX9_alignmentOf (Nat.le_of_ble_eq_true rfl) ?_
  unfold f_s_alignmentOf at hf
  refine XR.norm (L3 := [some (.ref t), some (.int a0), some (.int a1), none]) rfl ?_
  refine XS.go (s_iloadn rfl rfl rfl) ?_
  refine r_if_ne (tgt := 9) rfl rfl (fun qc4 => ?_) (fun qc4 => ?_)
  · replace hf := xi_pos hf qc4
    refine XS.go (s_iloadn rfl rfl rfl) ?_
    refine XS.go (s_iconst (v := 2) rfl rfl) ?_
    refine r_icmp_ne (tgt := 25) rfl rfl (fun qc5 => ?_) (fun qc5 => ?_)
    · replace hf := xi_pos hf qc5
      refine XS.go (s_null rfl) ?_
      exact XR.forget (L2 := [none, none, none, none]) trivial (kb_s_alignmentOf_26 L0 hf)
    · replace hf := xi_neg hf qc5
      refine XS.go (s_aloadn rfl rfl rfl) ?_
      replace hf := xi_none hf
      obtain ⟨qk6, hf⟩ := hf
      replace hf := xb_some hf
      obtain ⟨b7, qr8, hf⟩ := hf
      refine XS.go (s_getr rfl xf9_14 qk6.1 qk6.2 (by decide) rfl qr8) ?_
      refine XS.go (s_iloadn rfl rfl rfl) ?_
      replace hf := xi_none hf
      obtain ⟨qk9, hf⟩ := hf
      replace hf := xb_some hf
      obtain ⟨r10, e11, hf⟩ := hf
      refine r_callv rfl xvX4_at xm9_57 (kf_g_at (d := d) L0 e11) qk9.1 qk9.2 (by decide) rfl rfl (dl0 (by decide)) (by decide) (Nat.le_of_ble_eq_true rfl) ?_
      rintro _ _ ⟨⟨rfl, rfl⟩, L12⟩
      refine XS.go (s_goto (tgt := 26) rfl rfl) ?_
      exact XR.forget (L2 := [none, none, none, none]) trivial (kb_s_alignmentOf_26 L12 hf)
  · replace hf := xi_neg hf qc4
    refine XS.go (s_iloadn rfl rfl rfl) ?_
    replace hf := xb_some hf
    obtain ⟨r13, e14, hf⟩ := hf
    refine r_callsn rfl xsX11_scalarBytes (List.mem_of_getElem? (i := 9) rfl) (kf_t_scalarBytes (d := d) L0 e14) rfl rfl (dl0 (by decide)) (by decide) (Nat.le_of_ble_eq_true rfl) ?_
    rintro _ _ ⟨⟨rfl, rfl⟩, L15⟩
    cases hf
    exact XR.reti rfl rfl (fun hret => ⟨_, hret, ⟨rfl, rfl⟩, L15⟩)
def b_s_bytesOf_26 (y0 : Option Nat) (h : XH) : Option (Int32 × XH) := (Option.elim (y0) (some (4, h)) fun b2 => (if b2 < hz h ∧ hk h b2 = 2 then (some ((hi h b2 6), h)) else none))
set_option maxRecDepth 20000 in
theorem kb_s_bytesOf_26 {l : Launch} {G : XG} {d : Nat} {y0 : Option Nat} {h : XH} {r : Int32 × XH} (L0 : LY h) (hf : b_s_bytesOf_26 y0 h = some r) : XR l G xEX9_bytesOf (d + 1) (26, [none, none, none, none], [(va_rf y0)], h) (fun C => ∃ v, xRet xEX9_bytesOf C v ∧ (C.2.2.2 = r.2 ∧ v = some (.int r.1)) ∧ LY r.2) := by
  unfold b_s_bytesOf_26 at hf
  refine XS.go (XS.lcl (L3 := [none, none, none, some (va_rf y0)]) (s_astorenO rfl rfl (Nat.le_of_ble_eq_true rfl)) rfl) ?_
  refine XS.go (s_aloadnO rfl rfl rfl) ?_
  refine r_ifnonnull (tgt := 35) rfl rfl (fun qn1 => ?_) (fun b2 qn1 => ?_)
  · replace hf := xo_none hf qn1
    try rw [qn1]
    refine XS.go (s_iconst (v := 4) rfl rfl) ?_
    refine XS.go (s_goto (tgt := 39) rfl rfl) ?_
    cases hf
    exact XR.reti rfl rfl (fun hret => ⟨_, hret, ⟨rfl, rfl⟩, L0⟩)
  · replace hf := xo_some hf qn1
    try rw [qn1]
    refine XS.go (s_aloadn rfl rfl rfl) ?_
    replace hf := xi_none hf
    obtain ⟨qk3, hf⟩ := hf
    refine XS.go (s_getie rfl xf9_61 qk3.1 qk3.2 (by decide) rfl rfl) ?_
    cases hf
    exact XR.reti rfl rfl (fun hret => ⟨_, hret, ⟨rfl, rfl⟩, L0⟩)
def f_s_bytesOf (t : Nat) (a0 : Int32) (a1 : Int32) (h : XH) : Option (Int32 × XH) := (if ¬ a0 = 0 then (if ¬ a0 = 2 then (b_s_bytesOf_26 none h) else (if t < hz h ∧ hk h t = 9 then (Option.bind (hr h t 0) fun b7 => (if b7 < hz h ∧ hk h b7 = 4 then (Option.bind (f_g_at b7 a1 h) fun r10 => (b_s_bytesOf_26 r10.1 r10.2)) else none)) else none)) else (Option.bind (f_t_scalarBytes a1 h) fun r13 => (some (r13.1, r13.2))))
set_option maxRecDepth 20000 in
theorem kf_s_bytesOf {l : Launch} {G : XG} {d : Nat} {t : Nat} {a0 : Int32} {a1 : Int32} {h : XH} {r : Int32 × XH} (L0 : LY h) (hf : f_s_bytesOf t a0 a1 h = some r) : XC l G xEX9_bytesOf (d + 1) [.ref t, .int a0, .int a1] h (fun v h2 => (h2 = r.2 ∧ v = some (.int r.1)) ∧ LY r.2) := by
  refine XC.virt xvX9_bytesOf (Nat.le_of_ble_eq_true rfl) ?_
  unfold f_s_bytesOf at hf
  refine XR.norm (L3 := [some (.ref t), some (.int a0), some (.int a1), none]) rfl ?_
  refine XS.go (s_iloadn rfl rfl rfl) ?_
  refine r_if_ne (tgt := 9) rfl rfl (fun qc4 => ?_) (fun qc4 => ?_)
  · replace hf := xi_pos hf qc4
    refine XS.go (s_iloadn rfl rfl rfl) ?_
    refine XS.go (s_iconst (v := 2) rfl rfl) ?_
    refine r_icmp_ne (tgt := 25) rfl rfl (fun qc5 => ?_) (fun qc5 => ?_)
    · replace hf := xi_pos hf qc5
      refine XS.go (s_null rfl) ?_
      exact XR.forget (L2 := [none, none, none, none]) trivial (kb_s_bytesOf_26 L0 hf)
    · replace hf := xi_neg hf qc5
      refine XS.go (s_aloadn rfl rfl rfl) ?_
      replace hf := xi_none hf
      obtain ⟨qk6, hf⟩ := hf
      replace hf := xb_some hf
      obtain ⟨b7, qr8, hf⟩ := hf
      refine XS.go (s_getr rfl xf9_14 qk6.1 qk6.2 (by decide) rfl qr8) ?_
      refine XS.go (s_iloadn rfl rfl rfl) ?_
      replace hf := xi_none hf
      obtain ⟨qk9, hf⟩ := hf
      replace hf := xb_some hf
      obtain ⟨r10, e11, hf⟩ := hf
      refine r_callv rfl xvX4_at xm9_57 (kf_g_at (d := d) L0 e11) qk9.1 qk9.2 (by decide) rfl rfl (dl0 (by decide)) (by decide) (Nat.le_of_ble_eq_true rfl) ?_
      rintro _ _ ⟨⟨rfl, rfl⟩, L12⟩
      refine XS.go (s_goto (tgt := 26) rfl rfl) ?_
      exact XR.forget (L2 := [none, none, none, none]) trivial (kb_s_bytesOf_26 L12 hf)
  · replace hf := xi_neg hf qc4
    refine XS.go (s_iloadn rfl rfl rfl) ?_
    replace hf := xb_some hf
    obtain ⟨r13, e14, hf⟩ := hf
    refine r_callsn rfl xsX11_scalarBytes (List.mem_of_getElem? (i := 9) rfl) (kf_t_scalarBytes (d := d) L0 e14) rfl rfl (dl0 (by decide)) (by decide) (Nat.le_of_ble_eq_true rfl) ?_
    rintro _ _ ⟨⟨rfl, rfl⟩, L15⟩
    cases hf
    exact XR.reti rfl rfl (fun hret => ⟨_, hret, ⟨rfl, rfl⟩, L15⟩)
def s_u_addVector_62 (K62 : Nat → Int32 → Int32 → Nat → Int32 → Int32 → Int32 → Int32 → XH → Option (Int32 × XH)) (x1 : Nat) (x2 : Int32) (x3 : Int32) (x4 : Nat) (x5 : Int32) (x6 : Int32) (x8 : Int32) (x9 : Int32) (h : XH) : Option (Int32 × XH) := (if x5 ≤ x9 then (Option.bind (f_u_grow 4 4 h) fun r2 => (Option.bind (f_b_putNumber 1245 r2.1 4 (Int32.toInt64 x5) r2.2) fun r5 => (Option.bind (f_u_addThing 5 x3 x2 r5.2) fun r8 => (some (r8.1, r8.2))))) else (Option.bind (f_u_putContent x1 (x8 + (x9 * x6)) x2 x3 x4 x9 h) fun r11 => (K62 x1 x2 x3 x4 x5 x6 x8 (x9 + 1) r11.2)))
set_option maxRecDepth 20000 in
theorem ks_u_addVector_62 {l : Launch} {G : XG} {d : Nat} {K62 : Nat → Int32 → Int32 → Nat → Int32 → Int32 → Int32 → Int32 → XH → Option (Int32 × XH)} {x1 : Nat} {x2 : Int32} {x3 : Int32} {x4 : Nat} {x5 : Int32} {x6 : Int32} {x8 : Int32} {x9 : Int32} {h : XH} {r : Int32 × XH} (hK62 : ∀ (x1 : Nat) (x2 : Int32) (x3 : Int32) (x4 : Nat) (x5 : Int32) (x6 : Int32) (x8 : Int32) (x9 : Int32) (h : XH), LY h → K62 x1 x2 x3 x4 x5 x6 x8 x9 h = some r → XR l G xEX0_addVector (d + 4) (62, [some (.ref 1244), some (.ref x1), some (.int x2), some (.int x3), some (.ref x4), some (.int x5), some (.int x6), none, some (.int x8), some (.int x9)], [], h) (fun C => ∃ v, xRet xEX0_addVector C v ∧ (C.2.2.2 = r.2 ∧ v = some (.int r.1)) ∧ LY r.2)) (L0 : LY h) (hf : s_u_addVector_62 K62 x1 x2 x3 x4 x5 x6 x8 x9 h = some r) : XR l G xEX0_addVector (d + 4) (62, [some (.ref 1244), some (.ref x1), some (.int x2), some (.int x3), some (.ref x4), some (.int x5), some (.int x6), none, some (.int x8), some (.int x9)], [], h) (fun C => ∃ v, xRet xEX0_addVector C v ∧ (C.2.2.2 = r.2 ∧ v = some (.int r.1)) ∧ LY r.2) := by
  unfold s_u_addVector_62 at hf
  refine XS.go (s_iload rfl rfl) ?_
  refine XS.go (s_iload rfl rfl) ?_
  refine r_icmp_ge (tgt := 94) rfl rfl (fun qc1 => ?_) (fun qc1 => ?_)
  · replace hf := xi_pos hf qc1
    refine XS.go (s_aloadn rfl rfl rfl) ?_
    refine XS.go (s_getr rfl xf0_12 (LY.lt L0 (by decide)) (LY.k1244 L0) (by decide) rfl (LY.r1244_0 L0)) ?_
    refine XS.go (s_aloadn rfl rfl rfl) ?_
    refine XS.go (s_iconst (v := 4) rfl rfl) ?_
    refine XS.go (s_iconst (v := 4) rfl rfl) ?_
    replace hf := xb_some hf
    obtain ⟨r2, e3, hf⟩ := hf
    refine r_callv rfl xvX0_grow xm0_107 (kf_u_grow (d := d) L0 e3) (LY.lt L0 (by decide)) (LY.k1244 L0) (by decide) rfl rfl (dl (by decide)) (by decide) (Nat.le_of_ble_eq_true rfl) ?_
    rintro _ _ ⟨⟨rfl, rfl⟩, L4⟩
    refine XS.go (s_iconst (v := 4) rfl rfl) ?_
    refine XS.go (s_iload rfl rfl) ?_
    refine XS.go (s_i2l rfl) ?_
    replace hf := xb_some hf
    obtain ⟨r5, e6, hf⟩ := hf
    refine r_callv rfl xvX1_putNumber xm0_100 (kf_b_putNumber (d := d) L4 e6) (LY.lt L4 (by decide)) (LY.k1245 L4) (by decide) rfl rfl (dl (by decide)) (by decide) (Nat.le_of_ble_eq_true rfl) ?_
    rintro _ _ ⟨⟨rfl, rfl⟩, L7⟩
    refine XS.go (s_aloadn rfl rfl rfl) ?_
    refine XS.go (s_iconst (v := 5) rfl rfl) ?_
    refine XS.go (s_iloadn rfl rfl rfl) ?_
    refine XS.go (s_iloadn rfl rfl rfl) ?_
    replace hf := xb_some hf
    obtain ⟨r8, e9, hf⟩ := hf
    refine r_callv rfl xvX0_addThing xm0_114 (kf_u_addThing (d := d) L7 e9) (LY.lt L7 (by decide)) (LY.k1244 L7) (by decide) rfl rfl (dl0 (by decide)) (by decide) (Nat.le_of_ble_eq_true rfl) ?_
    rintro _ _ ⟨⟨rfl, rfl⟩, L10⟩
    cases hf
    exact XR.reti rfl rfl (fun hret => ⟨_, hret, ⟨rfl, rfl⟩, L10⟩)
  · replace hf := xi_neg hf qc1
    refine XS.go (s_aloadn rfl rfl rfl) ?_
    refine XS.go (s_aloadn rfl rfl rfl) ?_
    refine XS.go (s_iload rfl rfl) ?_
    refine XS.go (s_iload rfl rfl) ?_
    refine XS.go (s_iload rfl rfl) ?_
    refine XS.go (s_imul rfl) ?_
    refine XS.go (s_iadd rfl) ?_
    refine XS.go (s_iloadn rfl rfl rfl) ?_
    refine XS.go (s_iloadn rfl rfl rfl) ?_
    refine XS.go (s_aload rfl rfl) ?_
    refine XS.go (s_iload rfl rfl) ?_
    replace hf := xb_some hf
    obtain ⟨r11, e12, hf⟩ := hf
    refine r_callv rfl xvX0_putContent xm0_126 (kf_u_putContent (d := d) L0 e12) (LY.lt L0 (by decide)) (LY.k1244 L0) (by decide) rfl rfl (dl (by decide)) (by decide) (Nat.le_of_ble_eq_true rfl) ?_
    rintro _ _ ⟨⟨rfl, rfl⟩, L13⟩
    refine XS.go (XS.lcl (L3 := [some (.ref 1244), some (.ref x1), some (.int x2), some (.int x3), some (.ref x4), some (.int x5), some (.int x6), none, some (.int x8), some (.int (x9 + 1))]) (s_inc rfl rfl (Nat.le_of_ble_eq_true rfl)) rfl) ?_
    refine XS.go (s_goto (tgt := 62) rfl rfl) ?_
    exact XR.forget (L2 := [some (.ref 1244), some (.ref x1), some (.int x2), some (.int x3), some (.ref x4), some (.int x5), some (.int x6), none, some (.int x8), some (.int (x9 + 1))]) ⟨rfl, ⟨rfl, ⟨rfl, ⟨rfl, ⟨rfl, ⟨rfl, ⟨rfl, ⟨rfl, ⟨rfl, trivial⟩⟩⟩⟩⟩⟩⟩⟩⟩ (hK62 x1 x2 x3 x4 x5 x6 x8 (x9 + 1) _ L13 hf)
def b_u_addVector_62 : Nat → Nat → Int32 → Int32 → Nat → Int32 → Int32 → Int32 → Int32 → XH → Option (Int32 × XH)
  | 0, _, _, _, _, _, _, _, _, _ => none
  | n + 1, x1, x2, x3, x4, x5, x6, x8, x9, h => s_u_addVector_62 (b_u_addVector_62 n) x1 x2 x3 x4 x5 x6 x8 x9 h
theorem kb_u_addVector_62 {l : Launch} {G : XG} {d : Nat} {n : Nat} {x1 : Nat} {x2 : Int32} {x3 : Int32} {x4 : Nat} {x5 : Int32} {x6 : Int32} {x8 : Int32} {x9 : Int32} {h : XH} {r : Int32 × XH} (L0 : LY h) (hf : b_u_addVector_62 n x1 x2 x3 x4 x5 x6 x8 x9 h = some r) : XR l G xEX0_addVector (d + 4) (62, [some (.ref 1244), some (.ref x1), some (.int x2), some (.int x3), some (.ref x4), some (.int x5), some (.int x6), none, some (.int x8), some (.int x9)], [], h) (fun C => ∃ v, xRet xEX0_addVector C v ∧ (C.2.2.2 = r.2 ∧ v = some (.int r.1)) ∧ LY r.2) := by
  induction n generalizing x1 x2 x3 x4 x5 x6 x8 x9 h with
  | zero => cases hf
  | succ n ih => exact ks_u_addVector_62 (fun x1 x2 x3 x4 x5 x6 x8 x9 h L0 hf => ih (h := h) (x1 := x1) (x2 := x2) (x3 := x3) (x4 := x4) (x5 := x5) (x6 := x6) (x8 := x8) (x9 := x9) L0 hf) L0 hf
def f_u_addVector (a0 : Nat) (a1 : Int32) (a2 : Int32) (a3 : Nat) (a4 : Int32) (h : XH) : Option (Int32 × XH) := (if a0 < hz h ∧ hk h a0 = 9 then (Option.bind (f_s_bytesOf a0 a1 a2 h) fun r15 => (if a0 < hz r15.2 ∧ hk r15.2 a0 = 9 then (Option.bind (f_s_alignmentOf a0 a1 a2 r15.2) fun r19 => (Option.bind (f_t_roundUp ((hi r19.2 1244 1) + (a4 * r15.1)) (if 4 < r19.1 then r19.1 else 4) r19.2) fun r22 => (Option.bind (f_u_hasRoomForThing (r22.1 + 4) r22.2) fun r25 => (if ¬ r25.1 = 0 then (Option.bind (f_u_grow (a4 * r15.1) (if 4 < r19.1 then r19.1 else 4) r25.2) fun r29 => (b_u_addVector_62 100000 a0 a1 a2 a3 a4 r15.1 r29.1 0 r29.2)) else (some ((-1), r25.2)))))) else none)) else none)
set_option maxRecDepth 20000 in
theorem kf_u_addVector {l : Launch} {G : XG} {d : Nat} {a0 : Nat} {a1 : Int32} {a2 : Int32} {a3 : Nat} {a4 : Int32} {h : XH} {r : Int32 × XH} (L0 : LY h) (hf : f_u_addVector a0 a1 a2 a3 a4 h = some r) : XC l G xEX0_addVector (d + 4) [.ref 1244, .ref a0, .int a1, .int a2, .ref a3, .int a4] h (fun v h2 => (h2 = r.2 ∧ v = some (.int r.1)) ∧ LY r.2) := by
  refine XC.virt xvX0_addVector (Nat.le_of_ble_eq_true rfl) ?_
  unfold f_u_addVector at hf
  refine XR.norm (L3 := [some (.ref 1244), some (.ref a0), some (.int a1), some (.int a2), some (.ref a3), some (.int a4), none, none, none, none]) rfl ?_
  refine XS.go (s_aloadn rfl rfl rfl) ?_
  refine XS.go (s_iloadn rfl rfl rfl) ?_
  refine XS.go (s_iloadn rfl rfl rfl) ?_
  replace hf := xi_none hf
  obtain ⟨qk14, hf⟩ := hf
  replace hf := xb_some hf
  obtain ⟨r15, e16, hf⟩ := hf
  refine r_callv rfl xvX9_bytesOf xm0_118 (kf_s_bytesOf (d := d) L0 e16) qk14.1 qk14.2 (by decide) rfl rfl (dl (by decide)) (by decide) (Nat.le_of_ble_eq_true rfl) ?_
  rintro _ _ ⟨⟨rfl, rfl⟩, L17⟩
  refine XS.go (XS.lcl (L3 := [some (.ref 1244), some (.ref a0), some (.int a1), some (.int a2), some (.ref a3), some (.int a4), some (.int r15.1), none, none, none]) (s_istore rfl (Nat.le_of_ble_eq_true rfl)) rfl) ?_
  refine XS.go (s_iconst (v := 4) rfl rfl) ?_
  refine XS.go (s_aloadn rfl rfl rfl) ?_
  refine XS.go (s_iloadn rfl rfl rfl) ?_
  refine XS.go (s_iloadn rfl rfl rfl) ?_
  replace hf := xi_none hf
  obtain ⟨qk18, hf⟩ := hf
  replace hf := xb_some hf
  obtain ⟨r19, e20, hf⟩ := hf
  refine r_callv rfl xvX9_alignmentOf xm0_123 (kf_s_alignmentOf (d := d) L17 e20) qk18.1 qk18.2 (by decide) rfl rfl (dl (by decide)) (by decide) (Nat.le_of_ble_eq_true rfl) ?_
  rintro _ _ ⟨⟨rfl, rfl⟩, L21⟩
  refine XS.go (s_max rfl (lg_6 77 rfl rfl) (dl1 (by decide)) (Nat.le_of_ble_eq_true rfl)) ?_
  refine XS.go (XS.lcl (L3 := [some (.ref 1244), some (.ref a0), some (.int a1), some (.int a2), some (.ref a3), some (.int a4), some (.int r15.1), some (.int (if 4 < r19.1 then r19.1 else 4)), none, none]) (s_istore rfl (Nat.le_of_ble_eq_true rfl)) rfl) ?_
  refine XS.go (s_aloadn rfl rfl rfl) ?_
  refine XS.go (s_aloadn rfl rfl rfl) ?_
  refine XS.go (s_getie rfl xf0_18 (LY.lt L21 (by decide)) (LY.k1244 L21) (by decide) rfl rfl) ?_
  refine XS.go (s_iload rfl rfl) ?_
  refine XS.go (s_iload rfl rfl) ?_
  refine XS.go (s_imul rfl) ?_
  refine XS.go (s_iadd rfl) ?_
  refine XS.go (s_iload rfl rfl) ?_
  replace hf := xb_some hf
  obtain ⟨r22, e23, hf⟩ := hf
  refine r_callsn rfl xsX11_roundUp (List.mem_of_getElem? (i := 15) rfl) (kf_t_roundUp (d := d) L21 e23) rfl rfl (dl0 (by decide)) (by decide) (Nat.le_of_ble_eq_true rfl) ?_
  rintro _ _ ⟨⟨rfl, rfl⟩, L24⟩
  refine XS.go (s_iconst (v := 4) rfl rfl) ?_
  refine XS.go (s_iadd rfl) ?_
  replace hf := xb_some hf
  obtain ⟨r25, e26, hf⟩ := hf
  refine r_callv rfl xvX0_hasRoomForThing xm0_104 (kf_u_hasRoomForThing (d := d) L24 e26) (LY.lt L24 (by decide)) (LY.k1244 L24) (by decide) rfl rfl (dl0 (by decide)) (by decide) (Nat.le_of_ble_eq_true rfl) ?_
  rintro _ _ ⟨⟨rfl, rfl⟩, L27⟩
  refine r_if_ne (tgt := 46) rfl rfl (fun qc28 => ?_) (fun qc28 => ?_)
  · replace hf := xi_pos hf qc28
    refine XS.go (s_aloadn rfl rfl rfl) ?_
    refine XS.go (s_iload rfl rfl) ?_
    refine XS.go (s_iload rfl rfl) ?_
    refine XS.go (s_imul rfl) ?_
    refine XS.go (s_iload rfl rfl) ?_
    replace hf := xb_some hf
    obtain ⟨r29, e30, hf⟩ := hf
    refine r_callv rfl xvX0_grow xm0_107 (kf_u_grow (d := d) L27 e30) (LY.lt L27 (by decide)) (LY.k1244 L27) (by decide) rfl rfl (dl (by decide)) (by decide) (Nat.le_of_ble_eq_true rfl) ?_
    rintro _ _ ⟨⟨rfl, rfl⟩, L31⟩
    refine XS.go (XS.lcl (L3 := [some (.ref 1244), some (.ref a0), some (.int a1), some (.int a2), some (.ref a3), some (.int a4), some (.int r15.1), some (.int (if 4 < r19.1 then r19.1 else 4)), some (.int r29.1), none]) (s_istore rfl (Nat.le_of_ble_eq_true rfl)) rfl) ?_
    refine XS.go (s_iconst (v := 0) rfl rfl) ?_
    refine XS.go (XS.lcl (L3 := [some (.ref 1244), some (.ref a0), some (.int a1), some (.int a2), some (.ref a3), some (.int a4), some (.int r15.1), some (.int (if 4 < r19.1 then r19.1 else 4)), some (.int r29.1), some (.int 0)]) (s_istore rfl (Nat.le_of_ble_eq_true rfl)) rfl) ?_
    exact XR.forget (L2 := [some (.ref 1244), some (.ref a0), some (.int a1), some (.int a2), some (.ref a3), some (.int a4), some (.int r15.1), none, some (.int r29.1), some (.int 0)]) ⟨rfl, ⟨rfl, ⟨rfl, ⟨rfl, ⟨rfl, ⟨rfl, ⟨rfl, ⟨rfl, ⟨rfl, trivial⟩⟩⟩⟩⟩⟩⟩⟩⟩ (kb_u_addVector_62 L31 hf)
  · replace hf := xi_neg hf qc28
    refine XS.go (s_iconst (v := (-1)) rfl rfl) ?_
    cases hf
    exact XR.reti rfl rfl (fun hret => ⟨_, hret, ⟨rfl, rfl⟩, L27⟩)
def f_u_markStored (a0 : Int32) (h : XH) : Option (Unit × XH) := (if a0 < 0 then (some ((), h)) else (if (nI 32) ≤ a0 then (some ((), h)) else (some ((), (hsi h 1253 (Int32.toNatClampNeg a0) (hi h 1244 1))))))
set_option maxRecDepth 20000 in
theorem kf_u_markStored {l : Launch} {G : XG} {d : Nat} {a0 : Int32} {h : XH} {r : Unit × XH} (L0 : LY h) (hf : f_u_markStored a0 h = some r) : XC l G xEX0_markStored d [.ref 1244, .int a0] h (fun v h2 => (h2 = r.2 ∧ v = none) ∧ LY r.2) := by
  refine XC.virt xvX0_markStored (Nat.le_of_ble_eq_true rfl) ?_
  unfold f_u_markStored at hf
  refine XR.norm (L3 := [some (.ref 1244), some (.int a0)]) rfl ?_
  refine XS.go (s_iloadn rfl rfl rfl) ?_
  refine r_if_lt (tgt := 23) rfl rfl (fun qc1 => ?_) (fun qc1 => ?_)
  · replace hf := xi_pos hf qc1
    cases hf
    exact XR.retv rfl rfl (fun hret => ⟨_, hret, ⟨rfl, rfl⟩, L0⟩)
  · replace hf := xi_neg hf qc1
    refine XS.go (s_iloadn rfl rfl rfl) ?_
    refine XS.go (s_aloadn rfl rfl rfl) ?_
    refine XS.go (s_getr rfl xf0_57 (LY.lt L0 (by decide)) (LY.k1244 L0) (by decide) rfl (LY.r1244_13 L0)) ?_
    refine XS.go (s_alene rfl (LY.lt L0 (by decide)) (LY.k1253 L0) (LY.n1253 L0) (by decide)) ?_
    refine r_icmp_ge (tgt := 23) rfl rfl (fun qc2 => ?_) (fun qc2 => ?_)
    · replace hf := xi_pos hf qc2
      cases hf
      exact XR.retv rfl rfl (fun hret => ⟨_, hret, ⟨rfl, rfl⟩, L0⟩)
    · replace hf := xi_neg hf qc2
      refine XS.go (s_aloadn rfl rfl rfl) ?_
      refine XS.go (s_getr rfl xf0_57 (LY.lt L0 (by decide)) (LY.k1244 L0) (by decide) rfl (LY.r1244_13 L0)) ?_
      refine XS.go (s_iloadn rfl rfl rfl) ?_
      refine XS.go (s_aloadn rfl rfl rfl) ?_
      refine XS.go (s_getie rfl xf0_18 (LY.lt L0 (by decide)) (LY.k1244 L0) (by decide) rfl rfl) ?_
      refine XS.go (s_iast rfl (LY.lt L0 (by decide)) (LY.k1253 L0) (in_of (N := 32) (LY.n1253 L0) (by decide) qc1 qc2)) ?_
      cases hf
      exact XR.retv rfl rfl (fun hret => ⟨_, hret, ⟨rfl, rfl⟩, (by simp only [LY_si, LY_sj]; exact L0)⟩)
def f_u_putUnion (a0 : Nat) (a1 : Nat) (h : XH) : Option (Int32 × XH) := (Option.bind (f_t_roundUp ((hi h 1244 1) + 4) 4 h) fun r1 => (if (r1.1 + 1) ≤ 4000 then (Option.bind (f_u_grow 4 4 r1.2) fun r5 => (if a1 < hz r5.2 ∧ hk r5.2 a1 = 10 then (Option.bind (f_w_at a1 1 r5.2) fun r9 => (Option.bind (f_u_putReference r5.1 r9.1 r9.2) fun r12 => (if a0 < hz r12.2 ∧ hk r12.2 a0 = 3 then (Option.bind (f_u_markStored ((hi r12.2 a0 6) + 1) r12.2) fun r16 => (Option.bind (f_u_grow 1 1 r16.2) fun r19 => (if a1 < hz r19.2 ∧ hk r19.2 a1 = 10 then (Option.bind (f_w_at a1 0 r19.2) fun r23 => (Option.bind (f_b_putOctet 1245 r19.1 (Int64.toInt32 r23.1) r23.2) fun r26 => (if a0 < hz r26.2 ∧ hk r26.2 a0 = 3 then (Option.bind (f_u_markStored (hi r26.2 a0 6) r26.2) fun r30 => (some (1, r30.2))) else none))) else none))) else none))) else none)) else (some (0, r1.2))))
set_option maxRecDepth 20000 in
theorem kf_u_putUnion {l : Launch} {G : XG} {d : Nat} {a0 : Nat} {a1 : Nat} {h : XH} {r : Int32 × XH} (L0 : LY h) (hf : f_u_putUnion a0 a1 h = some r) : XC l G xEX0_putUnion (d + 3) [.ref 1244, .ref a0, .ref a1] h (fun v h2 => (h2 = r.2 ∧ v = some (.int r.1)) ∧ LY r.2) := by
  refine XC.virt xvX0_putUnion (Nat.le_of_ble_eq_true rfl) ?_
  unfold f_u_putUnion at hf
  refine XR.norm (L3 := [some (.ref 1244), some (.ref a0), some (.ref a1)]) rfl ?_
  refine XS.go (s_aloadn rfl rfl rfl) ?_
  refine XS.go (s_getie rfl xf0_18 (LY.lt L0 (by decide)) (LY.k1244 L0) (by decide) rfl rfl) ?_
  refine XS.go (s_iconst (v := 4) rfl rfl) ?_
  refine XS.go (s_iadd rfl) ?_
  refine XS.go (s_iconst (v := 4) rfl rfl) ?_
  replace hf := xb_some hf
  obtain ⟨r1, e2, hf⟩ := hf
  refine r_callsn rfl xsX11_roundUp (List.mem_of_getElem? (i := 15) rfl) (kf_t_roundUp (d := d) L0 e2) rfl rfl (dl0 (by decide)) (by decide) (Nat.le_of_ble_eq_true rfl) ?_
  rintro _ _ ⟨⟨rfl, rfl⟩, L3⟩
  refine XS.go (s_iconst (v := 1) rfl rfl) ?_
  refine XS.go (s_iadd rfl) ?_
  refine XS.go (s_sipush (v := 4000) rfl rfl) ?_
  refine r_icmp_le (tgt := 20) rfl rfl (fun qc4 => ?_) (fun qc4 => ?_)
  · replace hf := xi_pos hf qc4
    refine XS.go (s_aloadn rfl rfl rfl) ?_
    refine XS.go (s_aloadn rfl rfl rfl) ?_
    refine XS.go (s_iconst (v := 4) rfl rfl) ?_
    refine XS.go (s_iconst (v := 4) rfl rfl) ?_
    replace hf := xb_some hf
    obtain ⟨r5, e6, hf⟩ := hf
    refine r_callv rfl xvX0_grow xm0_107 (kf_u_grow (d := d) L3 e6) (LY.lt L3 (by decide)) (LY.k1244 L3) (by decide) rfl rfl (dl (by decide)) (by decide) (Nat.le_of_ble_eq_true rfl) ?_
    rintro _ _ ⟨⟨rfl, rfl⟩, L7⟩
    refine XS.go (s_aloadn rfl rfl rfl) ?_
    refine XS.go (s_iconst (v := 1) rfl rfl) ?_
    replace hf := xi_none hf
    obtain ⟨qk8, hf⟩ := hf
    replace hf := xb_some hf
    obtain ⟨r9, e10, hf⟩ := hf
    refine r_callv rfl xvX10_at xm0_134 (kf_w_at (d := d) L7 e10) qk8.1 qk8.2 (by decide) rfl rfl (dl0 (by decide)) (by decide) (Nat.le_of_ble_eq_true rfl) ?_
    rintro _ _ ⟨⟨rfl, rfl⟩, L11⟩
    replace hf := xb_some hf
    obtain ⟨r12, e13, hf⟩ := hf
    refine r_callv rfl xvX0_putReference xm0_153 (kf_u_putReference (d := d) L11 e13) (LY.lt L11 (by decide)) (LY.k1244 L11) (by decide) rfl rfl (dl (by decide)) (by decide) (Nat.le_of_ble_eq_true rfl) ?_
    rintro _ _ ⟨⟨rfl, rfl⟩, L14⟩
    refine XS.go (s_aloadn rfl rfl rfl) ?_
    refine XS.go (s_aloadn rfl rfl rfl) ?_
    replace hf := xi_none hf
    obtain ⟨qk15, hf⟩ := hf
    refine XS.go (s_getie rfl xf0_176 qk15.1 qk15.2 (by decide) rfl rfl) ?_
    refine XS.go (s_iconst (v := 1) rfl rfl) ?_
    refine XS.go (s_iadd rfl) ?_
    replace hf := xb_some hf
    obtain ⟨r16, e17, hf⟩ := hf
    refine r_callv rfl xvX0_markStored xm0_179 (kf_u_markStored (d := d) L14 e17) (LY.lt L14 (by decide)) (LY.k1244 L14) (by decide) rfl rfl (dl0 (by decide)) (by decide) (Nat.le_of_ble_eq_true rfl) ?_
    rintro _ _ ⟨⟨rfl, rfl⟩, L18⟩
    refine XS.go (s_aloadn rfl rfl rfl) ?_
    refine XS.go (s_getr rfl xf0_12 (LY.lt L18 (by decide)) (LY.k1244 L18) (by decide) rfl (LY.r1244_0 L18)) ?_
    refine XS.go (s_aloadn rfl rfl rfl) ?_
    refine XS.go (s_iconst (v := 1) rfl rfl) ?_
    refine XS.go (s_iconst (v := 1) rfl rfl) ?_
    replace hf := xb_some hf
    obtain ⟨r19, e20, hf⟩ := hf
    refine r_callv rfl xvX0_grow xm0_107 (kf_u_grow (d := d) L18 e20) (LY.lt L18 (by decide)) (LY.k1244 L18) (by decide) rfl rfl (dl (by decide)) (by decide) (Nat.le_of_ble_eq_true rfl) ?_
    rintro _ _ ⟨⟨rfl, rfl⟩, L21⟩
    refine XS.go (s_aloadn rfl rfl rfl) ?_
    refine XS.go (s_iconst (v := 0) rfl rfl) ?_
    replace hf := xi_none hf
    obtain ⟨qk22, hf⟩ := hf
    replace hf := xb_some hf
    obtain ⟨r23, e24, hf⟩ := hf
    refine r_callv rfl xvX10_at xm0_134 (kf_w_at (d := d) L21 e24) qk22.1 qk22.2 (by decide) rfl rfl (dl0 (by decide)) (by decide) (Nat.le_of_ble_eq_true rfl) ?_
    rintro _ _ ⟨⟨rfl, rfl⟩, L25⟩
    refine XS.go (s_l2i rfl) ?_
    replace hf := xb_some hf
    obtain ⟨r26, e27, hf⟩ := hf
    refine r_callv rfl xvX1_putOctet xm0_91 (kf_b_putOctet (d := d) L25 e27) (LY.lt L25 (by decide)) (LY.k1245 L25) (by decide) rfl rfl (dl0 (by decide)) (by decide) (Nat.le_of_ble_eq_true rfl) ?_
    rintro _ _ ⟨⟨rfl, rfl⟩, L28⟩
    refine XS.go (s_aloadn rfl rfl rfl) ?_
    refine XS.go (s_aloadn rfl rfl rfl) ?_
    replace hf := xi_none hf
    obtain ⟨qk29, hf⟩ := hf
    refine XS.go (s_getie rfl xf0_176 qk29.1 qk29.2 (by decide) rfl rfl) ?_
    replace hf := xb_some hf
    obtain ⟨r30, e31, hf⟩ := hf
    refine r_callv rfl xvX0_markStored xm0_179 (kf_u_markStored (d := d) L28 e31) (LY.lt L28 (by decide)) (LY.k1244 L28) (by decide) rfl rfl (dl0 (by decide)) (by decide) (Nat.le_of_ble_eq_true rfl) ?_
    rintro _ _ ⟨⟨rfl, rfl⟩, L32⟩
    refine XS.go (s_iconst (v := 1) rfl rfl) ?_
    cases hf
    exact XR.retz rfl rfl (by decide) (fun hret => ⟨_, hret, ⟨rfl, rfl⟩, L32⟩)
  · replace hf := xi_neg hf qc4
    refine XS.go (s_iconst (v := 0) rfl rfl) ?_
    cases hf
    exact XR.retz rfl rfl (by decide) (fun hret => ⟨_, hret, ⟨rfl, rfl⟩, L3⟩)
def f_u_putField (a0 : Nat) (a1 : Nat) (a2 : Nat) (h : XH) : Option (Int32 × XH) := (if a1 < hz h ∧ hk h a1 = 3 then (if ¬ (hi h a1 3) = 4 then (if a0 < hz h ∧ hk h a0 = 9 then (Option.bind (f_s_bytesOf a0 (hi h a1 3) (hi h a1 4) h) fun r4 => (if a1 < hz r4.2 ∧ hk r4.2 a1 = 3 then (if a0 < hz r4.2 ∧ hk r4.2 a0 = 9 then (Option.bind (f_s_alignmentOf a0 (hi r4.2 a1 3) (hi r4.2 a1 4) r4.2) fun r9 => (Option.bind (f_t_roundUp ((hi r9.2 1244 1) + r4.1) r9.1 r9.2) fun r12 => (if r12.1 ≤ 4000 then (Option.bind (f_u_grow r4.1 r9.1 r12.2) fun r16 => (if a1 < hz r16.2 ∧ hk r16.2 a1 = 3 then (Option.bind (f_u_putContent a0 r16.1 (hi r16.2 a1 3) (hi r16.2 a1 4) a2 0 r16.2) fun r20 => (if a1 < hz r20.2 ∧ hk r20.2 a1 = 3 then (Option.bind (f_u_markStored (hi r20.2 a1 6) r20.2) fun r24 => (some (1, r24.2))) else none)) else none)) else (some (0, r12.2))))) else none) else none)) else none) else (Option.bind (f_u_putUnion a1 a2 h) fun r27 => (if r27.1 = 0 ∨ r27.1 = 1 then (some (r27.1, r27.2)) else none))) else none)
set_option maxRecDepth 20000 in
theorem kf_u_putField {l : Launch} {G : XG} {d : Nat} {a0 : Nat} {a1 : Nat} {a2 : Nat} {h : XH} {r : Int32 × XH} (L0 : LY h) (hf : f_u_putField a0 a1 a2 h = some r) : XC l G xEX0_putField (d + 4) [.ref 1244, .ref a0, .ref a1, .ref a2] h (fun v h2 => (h2 = r.2 ∧ v = some (.int r.1)) ∧ LY r.2) := by
  refine XC.virt xvX0_putField (Nat.le_of_ble_eq_true rfl) ?_
  unfold f_u_putField at hf
  refine XR.norm (L3 := [some (.ref 1244), some (.ref a0), some (.ref a1), some (.ref a2), none, none, none]) rfl ?_
  refine XS.go (s_aloadn rfl rfl rfl) ?_
  replace hf := xi_none hf
  obtain ⟨qk1, hf⟩ := hf
  refine XS.go (s_getie rfl xf0_166 qk1.1 qk1.2 (by decide) rfl rfl) ?_
  refine XS.go (s_iconst (v := 4) rfl rfl) ?_
  refine r_icmp_ne (tgt := 15) rfl rfl (fun qc2 => ?_) (fun qc2 => ?_)
  · replace hf := xi_pos hf qc2
    refine XS.go (s_aloadn rfl rfl rfl) ?_
    refine XS.go (s_aloadn rfl rfl rfl) ?_
    refine XS.go (s_getie rfl xf0_166 qk1.1 qk1.2 (by decide) rfl rfl) ?_
    refine XS.go (s_aloadn rfl rfl rfl) ?_
    refine XS.go (s_getie rfl xf0_173 qk1.1 qk1.2 (by decide) rfl rfl) ?_
    replace hf := xi_none hf
    obtain ⟨qk3, hf⟩ := hf
    replace hf := xb_some hf
    obtain ⟨r4, e5, hf⟩ := hf
    refine r_callv rfl xvX9_bytesOf xm0_118 (kf_s_bytesOf (d := d) L0 e5) qk3.1 qk3.2 (by decide) rfl rfl (dl (by decide)) (by decide) (Nat.le_of_ble_eq_true rfl) ?_
    rintro _ _ ⟨⟨rfl, rfl⟩, L6⟩
    refine XS.go (XS.lcl (L3 := [some (.ref 1244), some (.ref a0), some (.ref a1), some (.ref a2), some (.int r4.1), none, none]) (s_istore rfl (Nat.le_of_ble_eq_true rfl)) rfl) ?_
    refine XS.go (s_aloadn rfl rfl rfl) ?_
    refine XS.go (s_aloadn rfl rfl rfl) ?_
    replace hf := xi_none hf
    obtain ⟨qk7, hf⟩ := hf
    refine XS.go (s_getie rfl xf0_166 qk7.1 qk7.2 (by decide) rfl rfl) ?_
    refine XS.go (s_aloadn rfl rfl rfl) ?_
    refine XS.go (s_getie rfl xf0_173 qk7.1 qk7.2 (by decide) rfl rfl) ?_
    replace hf := xi_none hf
    obtain ⟨qk8, hf⟩ := hf
    replace hf := xb_some hf
    obtain ⟨r9, e10, hf⟩ := hf
    refine r_callv rfl xvX9_alignmentOf xm0_123 (kf_s_alignmentOf (d := d) L6 e10) qk8.1 qk8.2 (by decide) rfl rfl (dl (by decide)) (by decide) (Nat.le_of_ble_eq_true rfl) ?_
    rintro _ _ ⟨⟨rfl, rfl⟩, L11⟩
    refine XS.go (XS.lcl (L3 := [some (.ref 1244), some (.ref a0), some (.ref a1), some (.ref a2), some (.int r4.1), some (.int r9.1), none]) (s_istore rfl (Nat.le_of_ble_eq_true rfl)) rfl) ?_
    refine XS.go (s_aloadn rfl rfl rfl) ?_
    refine XS.go (s_getie rfl xf0_18 (LY.lt L11 (by decide)) (LY.k1244 L11) (by decide) rfl rfl) ?_
    refine XS.go (s_iload rfl rfl) ?_
    refine XS.go (s_iadd rfl) ?_
    refine XS.go (s_iload rfl rfl) ?_
    replace hf := xb_some hf
    obtain ⟨r12, e13, hf⟩ := hf
    refine r_callsn rfl xsX11_roundUp (List.mem_of_getElem? (i := 15) rfl) (kf_t_roundUp (d := d) L11 e13) rfl rfl (dl0 (by decide)) (by decide) (Nat.le_of_ble_eq_true rfl) ?_
    rintro _ _ ⟨⟨rfl, rfl⟩, L14⟩
    refine XS.go (s_sipush (v := 4000) rfl rfl) ?_
    refine r_icmp_le (tgt := 63) rfl rfl (fun qc15 => ?_) (fun qc15 => ?_)
    · replace hf := xi_pos hf qc15
      refine XS.go (s_aloadn rfl rfl rfl) ?_
      refine XS.go (s_iload rfl rfl) ?_
      refine XS.go (s_iload rfl rfl) ?_
      replace hf := xb_some hf
      obtain ⟨r16, e17, hf⟩ := hf
      refine r_callv rfl xvX0_grow xm0_107 (kf_u_grow (d := d) L14 e17) (LY.lt L14 (by decide)) (LY.k1244 L14) (by decide) rfl rfl (dl (by decide)) (by decide) (Nat.le_of_ble_eq_true rfl) ?_
      rintro _ _ ⟨⟨rfl, rfl⟩, L18⟩
      refine XS.go (XS.lcl (L3 := [some (.ref 1244), some (.ref a0), some (.ref a1), some (.ref a2), some (.int r4.1), some (.int r9.1), some (.int r16.1)]) (s_istore rfl (Nat.le_of_ble_eq_true rfl)) rfl) ?_
      refine XS.go (s_aloadn rfl rfl rfl) ?_
      refine XS.go (s_aloadn rfl rfl rfl) ?_
      refine XS.go (s_iload rfl rfl) ?_
      refine XS.go (s_aloadn rfl rfl rfl) ?_
      replace hf := xi_none hf
      obtain ⟨qk19, hf⟩ := hf
      refine XS.go (s_getie rfl xf0_166 qk19.1 qk19.2 (by decide) rfl rfl) ?_
      refine XS.go (s_aloadn rfl rfl rfl) ?_
      refine XS.go (s_getie rfl xf0_173 qk19.1 qk19.2 (by decide) rfl rfl) ?_
      refine XS.go (s_aloadn rfl rfl rfl) ?_
      refine XS.go (s_iconst (v := 0) rfl rfl) ?_
      replace hf := xb_some hf
      obtain ⟨r20, e21, hf⟩ := hf
      refine r_callv rfl xvX0_putContent xm0_126 (kf_u_putContent (d := d) L18 e21) (LY.lt L18 (by decide)) (LY.k1244 L18) (by decide) rfl rfl (dl (by decide)) (by decide) (Nat.le_of_ble_eq_true rfl) ?_
      rintro _ _ ⟨⟨rfl, rfl⟩, L22⟩
      refine XS.go (s_aloadn rfl rfl rfl) ?_
      refine XS.go (s_aloadn rfl rfl rfl) ?_
      replace hf := xi_none hf
      obtain ⟨qk23, hf⟩ := hf
      refine XS.go (s_getie rfl xf0_176 qk23.1 qk23.2 (by decide) rfl rfl) ?_
      replace hf := xb_some hf
      obtain ⟨r24, e25, hf⟩ := hf
      refine r_callv rfl xvX0_markStored xm0_179 (kf_u_markStored (d := d) L22 e25) (LY.lt L22 (by decide)) (LY.k1244 L22) (by decide) rfl rfl (dl0 (by decide)) (by decide) (Nat.le_of_ble_eq_true rfl) ?_
      rintro _ _ ⟨⟨rfl, rfl⟩, L26⟩
      refine XS.go (s_iconst (v := 1) rfl rfl) ?_
      cases hf
      exact XR.retz rfl rfl (by decide) (fun hret => ⟨_, hret, ⟨rfl, rfl⟩, L26⟩)
    · replace hf := xi_neg hf qc15
      refine XS.go (s_iconst (v := 0) rfl rfl) ?_
      cases hf
      exact XR.retz rfl rfl (by decide) (fun hret => ⟨_, hret, ⟨rfl, rfl⟩, L14⟩)
  · replace hf := xi_neg hf qc2
    refine XS.go (s_aloadn rfl rfl rfl) ?_
    refine XS.go (s_aloadn rfl rfl rfl) ?_
    refine XS.go (s_aloadn rfl rfl rfl) ?_
    replace hf := xb_some hf
    obtain ⟨r27, e28, hf⟩ := hf
    refine r_callv rfl xvX0_putUnion xm0_169 (kf_u_putUnion (d := d) L0 e28) (LY.lt L0 (by decide)) (LY.k1244 L0) (by decide) rfl rfl (dl (by decide)) (by decide) (Nat.le_of_ble_eq_true rfl) ?_
    rintro _ _ ⟨⟨rfl, rfl⟩, L29⟩
    replace hf := xi_none hf
    obtain ⟨qk30, hf⟩ := hf
    cases hf
    exact XR.retz rfl rfl qk30 (fun hret => ⟨_, hret, ⟨rfl, rfl⟩, L29⟩)
