/-! Methods as functions of the heap -/
def b_s_named_65 (h : XH) : Option (Option Nat × XH) := (some (none, h))
set_option maxRecDepth 20000 in
theorem kb_s_named_65 {l : Launch} {G : XG} {d : Nat} {h : XH} {r : Option Nat × XH} (L0 : LY h) (hf : b_s_named_65 h = some r) : XR l G xEX9_named d (65, [none, none, none, none, none, none, none], [], h) (fun C => ∃ v, xRet xEX9_named C v ∧ (C.2.2.2 = r.2 ∧ v = some (va_rf r.1)) ∧ LY r.2) := by
  unfold b_s_named_65 at hf
  refine XS.go (s_null rfl) ?_
  cases hf
  exact XR.reta (o := none) rfl rfl (fun hret => ⟨_, hret, ⟨rfl, rfl⟩, L0⟩)
def b_s_named_59 (K3 : Nat → Int64 → Int64 → Int32 → XH → Option (Option Nat × XH)) (x0 : Nat) (x1 : Int64) (x3 : Int64) (x5 : Int32) (h : XH) : Option (Option Nat × XH) := (K3 x0 x1 x3 (x5 + 1) h)
set_option maxRecDepth 20000 in
theorem kb_s_named_59 {l : Launch} {G : XG} {d : Nat} {K3 : Nat → Int64 → Int64 → Int32 → XH → Option (Option Nat × XH)} {x0 : Nat} {x1 : Int64} {x3 : Int64} {x5 : Int32} {h : XH} {r : Option Nat × XH} (hK3 : ∀ (x0 : Nat) (x1 : Int64) (x3 : Int64) (x5 : Int32) (h : XH), LY h → K3 x0 x1 x3 x5 h = some r → XR l G xEX9_named d (3, [some (.ref x0), some (.long x1), none, some (.long x3), none, some (.int x5), none], [], h) (fun C => ∃ v, xRet xEX9_named C v ∧ (C.2.2.2 = r.2 ∧ v = some (va_rf r.1)) ∧ LY r.2)) (L0 : LY h) (hf : b_s_named_59 K3 x0 x1 x3 x5 h = some r) : XR l G xEX9_named d (59, [some (.ref x0), some (.long x1), none, some (.long x3), none, some (.int x5), none], [], h) (fun C => ∃ v, xRet xEX9_named C v ∧ (C.2.2.2 = r.2 ∧ v = some (va_rf r.1)) ∧ LY r.2) := by
  unfold b_s_named_59 at hf
  refine XS.go (XS.lcl (L3 := [some (.ref x0), some (.long x1), none, some (.long x3), none, some (.int (x5 + 1)), none]) (s_inc rfl rfl (Nat.le_of_ble_eq_true rfl)) rfl) ?_
  refine XS.go (s_goto (tgt := 3) rfl rfl) ?_
  exact XR.forget (L2 := [some (.ref x0), some (.long x1), none, some (.long x3), none, some (.int (x5 + 1)), none]) ⟨rfl, ⟨rfl, ⟨rfl, ⟨rfl, trivial⟩⟩⟩⟩ (hK3 x0 x1 x3 (x5 + 1) _ L0 hf)
def s_s_named_3 (K3 : Nat → Int64 → Int64 → Int32 → XH → Option (Option Nat × XH)) (x0 : Nat) (x1 : Int64) (x3 : Int64) (x5 : Int32) (h : XH) : Option (Option Nat × XH) := (if x0 < hz h ∧ hk h x0 = 9 then (if (hi h x0 4) ≤ x5 then (b_s_named_65 h) else (Option.bind (hr h x0 3) fun b3 => (if b3 < hz h ∧ hk h b3 = 105 then (if (nI (hn h b3)) ≤ x5 then (b_s_named_65 h) else (if 0 ≤ x5 ∧ x5 < nI (hn h b3) ∧ (hn h b3) < 2 ^ 31 then (Option.bind (hr h b3 (Int32.toNatClampNeg x5)) fun b8 => (if b8 < hz h ∧ hk h b8 = 2 then (if ¬ (lg_cmp (hj h b8 4) x1) = 0 then (b_s_named_59 K3 x0 x1 x3 x5 h) else (if ¬ (lg_cmp (hj h b8 5) x3) = 0 then (b_s_named_59 K3 x0 x1 x3 x5 h) else (some (some b8, h)))) else none)) else none)) else none))) else none)
set_option maxRecDepth 20000 in
theorem ks_s_named_3 {l : Launch} {G : XG} {d : Nat} {K3 : Nat → Int64 → Int64 → Int32 → XH → Option (Option Nat × XH)} {x0 : Nat} {x1 : Int64} {x3 : Int64} {x5 : Int32} {h : XH} {r : Option Nat × XH} (hK3 : ∀ (x0 : Nat) (x1 : Int64) (x3 : Int64) (x5 : Int32) (h : XH), LY h → K3 x0 x1 x3 x5 h = some r → XR l G xEX9_named d (3, [some (.ref x0), some (.long x1), none, some (.long x3), none, some (.int x5), none], [], h) (fun C => ∃ v, xRet xEX9_named C v ∧ (C.2.2.2 = r.2 ∧ v = some (va_rf r.1)) ∧ LY r.2)) (L0 : LY h) (hf : s_s_named_3 K3 x0 x1 x3 x5 h = some r) : XR l G xEX9_named d (3, [some (.ref x0), some (.long x1), none, some (.long x3), none, some (.int x5), none], [], h) (fun C => ∃ v, xRet xEX9_named C v ∧ (C.2.2.2 = r.2 ∧ v = some (va_rf r.1)) ∧ LY r.2) := by
  unfold s_s_named_3 at hf
  refine XS.go (s_iload rfl rfl) ?_
  refine XS.go (s_aloadn rfl rfl rfl) ?_
  replace hf := xi_none hf
  obtain ⟨qk1, hf⟩ := hf
  refine XS.go (s_getie rfl xf9_32 qk1.1 qk1.2 (by decide) rfl rfl) ?_
  refine r_icmp_ge (tgt := 65) rfl rfl (fun qc2 => ?_) (fun qc2 => ?_)
  · replace hf := xi_pos hf qc2
    exact XR.forget (L2 := [none, none, none, none, none, none, none]) trivial (kb_s_named_65 L0 hf)
  · replace hf := xi_neg hf qc2
    refine XS.go (s_iload rfl rfl) ?_
    refine XS.go (s_aloadn rfl rfl rfl) ?_
    replace hf := xb_some hf
    obtain ⟨b3, qr4, hf⟩ := hf
    refine XS.go (s_getr rfl xf9_28 qk1.1 qk1.2 (by decide) rfl qr4) ?_
    replace hf := xi_none hf
    obtain ⟨qk5, hf⟩ := hf
    refine XS.go (s_alene (N := hn h b3) rfl qk5.1 qk5.2 rfl (by decide)) ?_
    refine r_icmp_ge (tgt := 65) rfl rfl (fun qc6 => ?_) (fun qc6 => ?_)
    · replace hf := xi_pos hf qc6
      exact XR.forget (L2 := [none, none, none, none, none, none, none]) trivial (kb_s_named_65 L0 hf)
    · replace hf := xi_neg hf qc6
      refine XS.go (s_aloadn rfl rfl rfl) ?_
      refine XS.go (s_getr rfl xf9_28 qk1.1 qk1.2 (by decide) rfl qr4) ?_
      refine XS.go (s_iload rfl rfl) ?_
      replace hf := xi_none hf
      obtain ⟨qk7, hf⟩ := hf
      replace hf := xb_some hf
      obtain ⟨b8, qr9, hf⟩ := hf
      refine XS.go (s_aald105e rfl qk5.1 qk5.2 (inLit (N := hn h b3) rfl qk7.1 qk7.2.1 qk7.2.2) qr9) ?_
      refine XS.go (XS.lcl (L3 := [some (.ref x0), some (.long x1), none, some (.long x3), none, some (.int x5), some (.ref b8)]) (s_astore rfl (Nat.le_of_ble_eq_true rfl)) rfl) ?_
      refine XS.go (s_aload rfl rfl) ?_
      refine XS.go (s_ifnull_r rfl) ?_
      refine XS.go (s_aload rfl rfl) ?_
      replace hf := xi_none hf
      obtain ⟨qk10, hf⟩ := hf
      refine XS.go (s_getje rfl xf9_46 qk10.1 qk10.2 (by decide) rfl rfl) ?_
      refine XS.go (s_lloadn rfl rfl rfl) ?_
      refine XS.go (s_lcmp rfl) ?_
      refine r_if_ne (tgt := 59) rfl rfl (fun qc11 => ?_) (fun qc11 => ?_)
      · replace hf := xi_pos hf qc11
        exact XR.forget (L2 := [some (.ref x0), some (.long x1), none, some (.long x3), none, some (.int x5), none]) ⟨rfl, ⟨rfl, ⟨rfl, ⟨rfl, trivial⟩⟩⟩⟩ (kb_s_named_59 hK3 L0 hf)
      · replace hf := xi_neg hf qc11
        refine XS.go (s_aload rfl rfl) ?_
        refine XS.go (s_getje rfl xf9_50 qk10.1 qk10.2 (by decide) rfl rfl) ?_
        refine XS.go (s_lloadn rfl rfl rfl) ?_
        refine XS.go (s_lcmp rfl) ?_
        refine r_if_ne (tgt := 59) rfl rfl (fun qc12 => ?_) (fun qc12 => ?_)
        · replace hf := xi_pos hf qc12
          exact XR.forget (L2 := [some (.ref x0), some (.long x1), none, some (.long x3), none, some (.int x5), none]) ⟨rfl, ⟨rfl, ⟨rfl, ⟨rfl, trivial⟩⟩⟩⟩ (kb_s_named_59 hK3 L0 hf)
        · replace hf := xi_neg hf qc12
          refine XS.go (s_aload rfl rfl) ?_
          cases hf
          exact XR.reta (o := (some b8)) rfl rfl (fun hret => ⟨_, hret, ⟨rfl, rfl⟩, L0⟩)
def b_s_named_3 : Nat → Nat → Int64 → Int64 → Int32 → XH → Option (Option Nat × XH)
  | 0, _, _, _, _, _ => none
  | n + 1, x0, x1, x3, x5, h => s_s_named_3 (b_s_named_3 n) x0 x1 x3 x5 h
theorem kb_s_named_3 {l : Launch} {G : XG} {d : Nat} {n : Nat} {x0 : Nat} {x1 : Int64} {x3 : Int64} {x5 : Int32} {h : XH} {r : Option Nat × XH} (L0 : LY h) (hf : b_s_named_3 n x0 x1 x3 x5 h = some r) : XR l G xEX9_named d (3, [some (.ref x0), some (.long x1), none, some (.long x3), none, some (.int x5), none], [], h) (fun C => ∃ v, xRet xEX9_named C v ∧ (C.2.2.2 = r.2 ∧ v = some (va_rf r.1)) ∧ LY r.2) := by
  induction n generalizing x0 x1 x3 x5 h with
  | zero => cases hf
  | succ n ih => exact ks_s_named_3 (fun x0 x1 x3 x5 h L0 hf => ih (h := h) (x0 := x0) (x1 := x1) (x3 := x3) (x5 := x5) L0 hf) L0 hf
def f_s_named (t : Nat) (a0 : Int64) (a1 : Int64) (h : XH) : Option (Option Nat × XH) := (b_s_named_3 100000 t a0 a1 0 h)
set_option maxRecDepth 20000 in
theorem kf_s_named {l : Launch} {G : XG} {d : Nat} {t : Nat} {a0 : Int64} {a1 : Int64} {h : XH} {r : Option Nat × XH} (L0 : LY h) (hf : f_s_named t a0 a1 h = some r) : XC l G xEX9_named d [.ref t, .long a0, .long a1] h (fun v h2 => (h2 = r.2 ∧ v = some (va_rf r.1)) ∧ LY r.2) := by
  refine XC.virt xvX9_named (Nat.le_of_ble_eq_true rfl) ?_
  unfold f_s_named at hf
  refine XR.norm (L3 := [some (.ref t), some (.long a0), none, some (.long a1), none, none, none]) rfl ?_
  refine XS.go (s_iconst (v := 0) rfl rfl) ?_
  refine XS.go (XS.lcl (L3 := [some (.ref t), some (.long a0), none, some (.long a1), none, some (.int 0), none]) (s_istore rfl (Nat.le_of_ble_eq_true rfl)) rfl) ?_
  exact XR.forget (L2 := [some (.ref t), some (.long a0), none, some (.long a1), none, some (.int 0), none]) ⟨rfl, ⟨rfl, ⟨rfl, ⟨rfl, trivial⟩⟩⟩⟩ (kb_s_named_3 L0 hf)
def f_p_newDefinition (t : Nat) (a0 : Nat) (h : XH) : Option (Option Nat × XH) := (if t < hz h ∧ hk h t = 7 then (if (hi h t 6) = 2 then (Option.bind (hr h t 1) fun b3 => (Option.bind (hr h t 0) fun b5 => (if b5 = 7 then (Option.bind (f_x_head (hi h t 5) h) fun r8 => (if t < hz r8.2 ∧ hk r8.2 t = 7 then (Option.bind (hr r8.2 t 0) fun b12 => (if b12 = 7 then (Option.bind (f_x_tail (hi r8.2 t 5) r8.2) fun r15 => (if b3 < hz r15.2 ∧ hk r15.2 b3 = 9 then (Option.bind (f_s_named b3 r8.1 r15.1 r15.2) fun r19 => (Option.elim (r19.1) (if t < hz r19.2 ∧ hk r19.2 t = 7 then (Option.bind (hr r19.2 t 1) fun b25 => (Option.bind (hr r19.2 t 0) fun b27 => (if b27 = 7 then (Option.bind (f_x_head (hi r19.2 t 5) r19.2) fun r30 => (if t < hz r30.2 ∧ hk r30.2 t = 7 then (Option.bind (hr r30.2 t 0) fun b34 => (if b34 = 7 then (Option.bind (f_x_tail (hi r30.2 t 5) r30.2) fun r37 => (if b25 < hz r37.2 ∧ hk r37.2 b25 = 9 then (Option.bind (f_s_addTo b25 a0 r30.1 r37.1 r37.2) fun r41 => (Option.elim (r41.1) (if t < hz r41.2 ∧ hk r41.2 t = 7 then (Option.bind (f_p_fail t 4 r41.2) fun r47 => (some (none, r47.2))) else none) fun b45 => (if t < hz r41.2 ∧ hk r41.2 t = 7 then (Option.bind (f_p_advance t r41.2) fun r51 => (some (some b45, r51.2))) else none))) else none)) else none)) else none)) else none))) else none) fun b23 => (if t < hz r19.2 ∧ hk r19.2 t = 7 then (Option.bind (f_p_fail t 3 r19.2) fun r55 => (some (none, r55.2))) else none))) else none)) else none)) else none)) else none))) else (Option.bind (f_p_fail t 2 h) fun r58 => (some (none, r58.2)))) else none)
set_option maxRecDepth 20000 in
theorem kf_p_newDefinition {l : Launch} {G : XG} {d : Nat} {t : Nat} {a0 : Nat} {h : XH} {r : Option Nat × XH} (L0 : LY h) (hf : f_p_newDefinition t a0 h = some r) : XC l G xEX7_newDefinition (d + 3) [.ref t, .ref a0] h (fun v h2 => (h2 = r.2 ∧ v = some (va_rf r.1)) ∧ LY r.2) := by
  refine XC.virt xvX7_newDefinition (Nat.le_of_ble_eq_true rfl) ?_
  unfold f_p_newDefinition at hf
  refine XR.norm (L3 := [some (.ref t), some (.ref a0), none]) rfl ?_
  refine XS.go (s_aloadn rfl rfl rfl) ?_
  replace hf := xi_none hf
  obtain ⟨qk1, hf⟩ := hf
  refine XS.go (s_getie rfl xf7_31 qk1.1 qk1.2 (by decide) rfl rfl) ?_
  refine XS.go (s_iconst (v := 2) rfl rfl) ?_
  refine r_icmp_eq (tgt := 16) rfl rfl (fun qc2 => ?_) (fun qc2 => ?_)
  · replace hf := xi_pos hf qc2
    refine XS.go (s_aloadn rfl rfl rfl) ?_
    replace hf := xb_some hf
    obtain ⟨b3, qr4, hf⟩ := hf
    refine XS.go (s_getr rfl xf7_44 qk1.1 qk1.2 (by decide) rfl qr4) ?_
    refine XS.go (s_aloadn rfl rfl rfl) ?_
    replace hf := xb_some hf
    obtain ⟨b5, qr6, hf⟩ := hf
    refine XS.go (s_getr rfl xf7_40 qk1.1 qk1.2 (by decide) rfl qr6) ?_
    refine XS.go (s_aloadn rfl rfl rfl) ?_
    refine XS.go (s_getie rfl xf7_26 qk1.1 qk1.2 (by decide) rfl rfl) ?_
    replace hf := xi_none hf
    obtain ⟨qk7, hf⟩ := hf
    subst qk7
    replace hf := xb_some hf
    obtain ⟨r8, e9, hf⟩ := hf
    refine r_callv rfl xvX6_head xm7_109 (kf_x_head (d := d) L0 e9) (LY.lt L0 (by decide)) (LY.k7 L0) (by decide) rfl rfl (dl0 (by decide)) (by decide) (Nat.le_of_ble_eq_true rfl) ?_
    rintro _ _ ⟨⟨rfl, rfl⟩, L10⟩
    refine XS.go (s_aloadn rfl rfl rfl) ?_
    replace hf := xi_none hf
    obtain ⟨qk11, hf⟩ := hf
    replace hf := xb_some hf
    obtain ⟨b12, qr13, hf⟩ := hf
    refine XS.go (s_getr rfl xf7_40 qk11.1 qk11.2 (by decide) rfl qr13) ?_
    refine XS.go (s_aloadn rfl rfl rfl) ?_
    refine XS.go (s_getie rfl xf7_26 qk11.1 qk11.2 (by decide) rfl rfl) ?_
    replace hf := xi_none hf
    obtain ⟨qk14, hf⟩ := hf
    subst qk14
    replace hf := xb_some hf
    obtain ⟨r15, e16, hf⟩ := hf
    refine r_callv rfl xvX6_tail xm7_113 (kf_x_tail (d := d) L10 e16) (LY.lt L10 (by decide)) (LY.k7 L10) (by decide) rfl rfl (dl0 (by decide)) (by decide) (Nat.le_of_ble_eq_true rfl) ?_
    rintro _ _ ⟨⟨rfl, rfl⟩, L17⟩
    replace hf := xi_none hf
    obtain ⟨qk18, hf⟩ := hf
    replace hf := xb_some hf
    obtain ⟨r19, e20, hf⟩ := hf
    refine r_callv rfl xvX9_named xm7_116 (kf_s_named (d := d) L17 e20) qk18.1 qk18.2 (by decide) rfl rfl (dl0 (by decide)) (by decide) (Nat.le_of_ble_eq_true rfl) ?_
    rintro _ _ ⟨⟨rfl, rfl⟩, L21⟩
    refine r_ifnull (tgt := 56) rfl rfl (fun qn22 => ?_) (fun b23 qn22 => ?_)
    · replace hf := xo_none hf qn22
      try rw [qn22]
      refine XS.go (s_aloadn rfl rfl rfl) ?_
      replace hf := xi_none hf
      obtain ⟨qk24, hf⟩ := hf
      replace hf := xb_some hf
      obtain ⟨b25, qr26, hf⟩ := hf
      refine XS.go (s_getr rfl xf7_44 qk24.1 qk24.2 (by decide) rfl qr26) ?_
      refine XS.go (s_aloadn rfl rfl rfl) ?_
      refine XS.go (s_aloadn rfl rfl rfl) ?_
      replace hf := xb_some hf
      obtain ⟨b27, qr28, hf⟩ := hf
      refine XS.go (s_getr rfl xf7_40 qk24.1 qk24.2 (by decide) rfl qr28) ?_
      refine XS.go (s_aloadn rfl rfl rfl) ?_
      refine XS.go (s_getie rfl xf7_26 qk24.1 qk24.2 (by decide) rfl rfl) ?_
      replace hf := xi_none hf
      obtain ⟨qk29, hf⟩ := hf
      subst qk29
      replace hf := xb_some hf
      obtain ⟨r30, e31, hf⟩ := hf
      refine r_callv rfl xvX6_head xm7_109 (kf_x_head (d := d) L21 e31) (LY.lt L21 (by decide)) (LY.k7 L21) (by decide) rfl rfl (dl0 (by decide)) (by decide) (Nat.le_of_ble_eq_true rfl) ?_
      rintro _ _ ⟨⟨rfl, rfl⟩, L32⟩
      refine XS.go (s_aloadn rfl rfl rfl) ?_
      replace hf := xi_none hf
      obtain ⟨qk33, hf⟩ := hf
      replace hf := xb_some hf
      obtain ⟨b34, qr35, hf⟩ := hf
      refine XS.go (s_getr rfl xf7_40 qk33.1 qk33.2 (by decide) rfl qr35) ?_
      refine XS.go (s_aloadn rfl rfl rfl) ?_
      refine XS.go (s_getie rfl xf7_26 qk33.1 qk33.2 (by decide) rfl rfl) ?_
      replace hf := xi_none hf
      obtain ⟨qk36, hf⟩ := hf
      subst qk36
      replace hf := xb_some hf
      obtain ⟨r37, e38, hf⟩ := hf
      refine r_callv rfl xvX6_tail xm7_113 (kf_x_tail (d := d) L32 e38) (LY.lt L32 (by decide)) (LY.k7 L32) (by decide) rfl rfl (dl0 (by decide)) (by decide) (Nat.le_of_ble_eq_true rfl) ?_
      rintro _ _ ⟨⟨rfl, rfl⟩, L39⟩
      replace hf := xi_none hf
      obtain ⟨qk40, hf⟩ := hf
      replace hf := xb_some hf
      obtain ⟨r41, e42, hf⟩ := hf
      refine r_callv rfl xvX9_addTo xm7_120 (kf_s_addTo (d := d) L39 e42) qk40.1 qk40.2 (by decide) rfl rfl (dl (by decide)) (by decide) (Nat.le_of_ble_eq_true rfl) ?_
      rintro _ _ ⟨⟨rfl, rfl⟩, L43⟩
      refine XS.go (XS.lcl (L3 := [some (.ref t), some (.ref a0), some (va_rf r41.1)]) (s_astorenO rfl rfl (Nat.le_of_ble_eq_true rfl)) rfl) ?_
      refine XS.go (s_aloadnO rfl rfl rfl) ?_
      refine r_ifnonnull (tgt := 99) rfl rfl (fun qn44 => ?_) (fun b45 qn44 => ?_)
      · replace hf := xo_none hf qn44
        try rw [qn44]
        refine XS.go (s_aloadn rfl rfl rfl) ?_
        refine XS.go (s_iconst (v := 4) rfl rfl) ?_
        replace hf := xi_none hf
        obtain ⟨qk46, hf⟩ := hf
        replace hf := xb_some hf
        obtain ⟨r47, e48, hf⟩ := hf
        refine r_callv rfl xvX7_fail xm7_78 (kf_p_fail (d := d) L43 e48) qk46.1 qk46.2 (by decide) rfl rfl (dl (by decide)) (by decide) (Nat.le_of_ble_eq_true rfl) ?_
        rintro _ _ ⟨⟨rfl, rfl⟩, L49⟩
        refine XS.go (s_pop rfl rfl) ?_
        refine XS.go (s_null rfl) ?_
        cases hf
        exact XR.reta (o := none) rfl rfl (fun hret => ⟨_, hret, ⟨rfl, rfl⟩, L49⟩)
      · replace hf := xo_some hf qn44
        try rw [qn44]
        refine XS.go (s_aloadn rfl rfl rfl) ?_
        replace hf := xi_none hf
        obtain ⟨qk50, hf⟩ := hf
        replace hf := xb_some hf
        obtain ⟨r51, e52, hf⟩ := hf
        refine r_callv rfl xvX7_advance xm7_82 (kf_p_advance (d := d) L43 e52) qk50.1 qk50.2 (by decide) rfl rfl (dl (by decide)) (by decide) (Nat.le_of_ble_eq_true rfl) ?_
        rintro _ _ ⟨⟨rfl, rfl⟩, L53⟩
        refine XS.go (s_aloadn rfl rfl rfl) ?_
        cases hf
        exact XR.reta (o := (some b45)) rfl rfl (fun hret => ⟨_, hret, ⟨rfl, rfl⟩, L53⟩)
    · replace hf := xo_some hf qn22
      try rw [qn22]
      refine XS.go (s_aloadn rfl rfl rfl) ?_
      refine XS.go (s_iconst (v := 3) rfl rfl) ?_
      replace hf := xi_none hf
      obtain ⟨qk54, hf⟩ := hf
      replace hf := xb_some hf
      obtain ⟨r55, e56, hf⟩ := hf
      refine r_callv rfl xvX7_fail xm7_78 (kf_p_fail (d := d) L21 e56) qk54.1 qk54.2 (by decide) rfl rfl (dl (by decide)) (by decide) (Nat.le_of_ble_eq_true rfl) ?_
      rintro _ _ ⟨⟨rfl, rfl⟩, L57⟩
      refine XS.go (s_pop rfl rfl) ?_
      refine XS.go (s_null rfl) ?_
      cases hf
      exact XR.reta (o := none) rfl rfl (fun hret => ⟨_, hret, ⟨rfl, rfl⟩, L57⟩)
  · replace hf := xi_neg hf qc2
    refine XS.go (s_aloadn rfl rfl rfl) ?_
    refine XS.go (s_iconst (v := 2) rfl rfl) ?_
    replace hf := xb_some hf
    obtain ⟨r58, e59, hf⟩ := hf
    refine r_callv rfl xvX7_fail xm7_78 (kf_p_fail (d := d) L0 e59) qk1.1 qk1.2 (by decide) rfl rfl (dl (by decide)) (by decide) (Nat.le_of_ble_eq_true rfl) ?_
    rintro _ _ ⟨⟨rfl, rfl⟩, L60⟩
    refine XS.go (s_pop rfl rfl) ?_
    refine XS.go (s_null rfl) ?_
    cases hf
    exact XR.reta (o := none) rfl rfl (fun hret => ⟨_, hret, ⟨rfl, rfl⟩, L60⟩)
def f_p_expect (t : Nat) (a0 : Int32) (h : XH) : Option (Int32 × XH) := (if t < hz h ∧ hk h t = 7 then (if (hi h t 6) = a0 then (Option.bind (f_p_advance t h) fun r3 => (some (1, r3.2))) else (Option.bind (f_p_fail t 2 h) fun r6 => (if r6.1 = 0 ∨ r6.1 = 1 then (some (r6.1, r6.2)) else none))) else none)
set_option maxRecDepth 20000 in
theorem kf_p_expect {l : Launch} {G : XG} {d : Nat} {t : Nat} {a0 : Int32} {h : XH} {r : Int32 × XH} (L0 : LY h) (hf : f_p_expect t a0 h = some r) : XC l G xEX7_expect (d + 2) [.ref t, .int a0] h (fun v h2 => (h2 = r.2 ∧ v = some (.int r.1)) ∧ LY r.2) := by
  refine XC.virt xvX7_expect (Nat.le_of_ble_eq_true rfl) ?_
  unfold f_p_expect at hf
  refine XR.norm (L3 := [some (.ref t), some (.int a0)]) rfl ?_
  refine XS.go (s_aloadn rfl rfl rfl) ?_
  replace hf := xi_none hf
  obtain ⟨qk1, hf⟩ := hf
  refine XS.go (s_getie rfl xf7_31 qk1.1 qk1.2 (by decide) rfl rfl) ?_
  refine XS.go (s_iloadn rfl rfl rfl) ?_
  refine r_icmp_eq (tgt := 14) rfl rfl (fun qc2 => ?_) (fun qc2 => ?_)
  · replace hf := xi_pos hf qc2
    refine XS.go (s_aloadn rfl rfl rfl) ?_
    replace hf := xb_some hf
    obtain ⟨r3, e4, hf⟩ := hf
    refine r_callv rfl xvX7_advance xm7_82 (kf_p_advance (d := d) L0 e4) qk1.1 qk1.2 (by decide) rfl rfl (dl (by decide)) (by decide) (Nat.le_of_ble_eq_true rfl) ?_
    rintro _ _ ⟨⟨rfl, rfl⟩, L5⟩
    refine XS.go (s_iconst (v := 1) rfl rfl) ?_
    cases hf
    exact XR.retz rfl rfl (by decide) (fun hret => ⟨_, hret, ⟨rfl, rfl⟩, L5⟩)
  · replace hf := xi_neg hf qc2
    refine XS.go (s_aloadn rfl rfl rfl) ?_
    refine XS.go (s_iconst (v := 2) rfl rfl) ?_
    replace hf := xb_some hf
    obtain ⟨r6, e7, hf⟩ := hf
    refine r_callv rfl xvX7_fail xm7_78 (kf_p_fail (d := d) L0 e7) qk1.1 qk1.2 (by decide) rfl rfl (dl (by decide)) (by decide) (Nat.le_of_ble_eq_true rfl) ?_
    rintro _ _ ⟨⟨rfl, rfl⟩, L8⟩
    replace hf := xi_none hf
    obtain ⟨qk9, hf⟩ := hf
    cases hf
    exact XR.retz rfl rfl qk9 (fun hret => ⟨_, hret, ⟨rfl, rfl⟩, L8⟩)
def b_p_addLeaves_26 (x1 : Nat) (x2 : Nat) (y0 : Option Nat) (h : XH) : Option (Unit × XH) := (Option.elim (y0) (if x2 < hz h ∧ hk h x2 = 3 then (if x1 < hz h ∧ hk h x1 = 2 then (Option.bind (f_d_addLeaf x1 (hi h x2 4) (hi h x2 6) h) fun r5 => (some ((), r5.2))) else none) else none) fun b2 => (if x2 < hz h ∧ hk h x2 = 3 then (if x1 < hz h ∧ hk h x1 = 2 then (Option.bind (f_d_addLeavesOf x1 b2 (hi h x2 6) h) fun r10 => (some ((), r10.2))) else none) else none))
set_option maxRecDepth 20000 in
theorem kb_p_addLeaves_26 {l : Launch} {G : XG} {d : Nat} {x1 : Nat} {x2 : Nat} {y0 : Option Nat} {h : XH} {r : Unit × XH} (L0 : LY h) (hf : b_p_addLeaves_26 x1 x2 y0 h = some r) : XR l G xEX7_addLeaves (d + 2) (26, [none, some (.ref x1), some (.ref x2), none], [(va_rf y0)], h) (fun C => ∃ v, xRet xEX7_addLeaves C v ∧ (C.2.2.2 = r.2 ∧ v = none) ∧ LY r.2) := by
  unfold b_p_addLeaves_26 at hf
  refine XS.go (XS.lcl (L3 := [none, some (.ref x1), some (.ref x2), some (va_rf y0)]) (s_astorenO rfl rfl (Nat.le_of_ble_eq_true rfl)) rfl) ?_
  refine XS.go (s_aloadnO rfl rfl rfl) ?_
  refine r_ifnonnull (tgt := 46) rfl rfl (fun qn1 => ?_) (fun b2 qn1 => ?_)
  · replace hf := xo_none hf qn1
    try rw [qn1]
    refine XS.go (s_aloadn rfl rfl rfl) ?_
    refine XS.go (s_aloadn rfl rfl rfl) ?_
    replace hf := xi_none hf
    obtain ⟨qk3, hf⟩ := hf
    refine XS.go (s_getie rfl xf7_69 qk3.1 qk3.2 (by decide) rfl rfl) ?_
    refine XS.go (s_aloadn rfl rfl rfl) ?_
    refine XS.go (s_getie rfl xf7_177 qk3.1 qk3.2 (by decide) rfl rfl) ?_
    replace hf := xi_none hf
    obtain ⟨qk4, hf⟩ := hf
    replace hf := xb_some hf
    obtain ⟨r5, e6, hf⟩ := hf
    refine r_callv rfl xvX2_addLeaf xm7_201 (kf_d_addLeaf (d := d) L0 e6) qk4.1 qk4.2 (by decide) rfl rfl (dl0 (by decide)) (by decide) (Nat.le_of_ble_eq_true rfl) ?_
    rintro _ _ ⟨⟨rfl, rfl⟩, L7⟩
    refine XS.go (s_goto (tgt := 55) rfl rfl) ?_
    cases hf
    exact XR.retv rfl rfl (fun hret => ⟨_, hret, ⟨rfl, rfl⟩, L7⟩)
  · replace hf := xo_some hf qn1
    try rw [qn1]
    refine XS.go (s_aloadn rfl rfl rfl) ?_
    refine XS.go (s_aloadn rfl rfl rfl) ?_
    refine XS.go (s_aloadn rfl rfl rfl) ?_
    replace hf := xi_none hf
    obtain ⟨qk8, hf⟩ := hf
    refine XS.go (s_getie rfl xf7_177 qk8.1 qk8.2 (by decide) rfl rfl) ?_
    replace hf := xi_none hf
    obtain ⟨qk9, hf⟩ := hf
    replace hf := xb_some hf
    obtain ⟨r10, e11, hf⟩ := hf
    refine r_callv rfl xvX2_addLeavesOf xm7_205 (kf_d_addLeavesOf (d := d) L0 e11) qk9.1 qk9.2 (by decide) rfl rfl (dl (by decide)) (by decide) (Nat.le_of_ble_eq_true rfl) ?_
    rintro _ _ ⟨⟨rfl, rfl⟩, L12⟩
    cases hf
    exact XR.retv rfl rfl (fun hret => ⟨_, hret, ⟨rfl, rfl⟩, L12⟩)
def f_p_addLeaves (t : Nat) (a0 : Nat) (a1 : Nat) (h : XH) : Option (Unit × XH) := (if a1 < hz h ∧ hk h a1 = 3 then (if ¬ (hi h a1 3) = 2 then (b_p_addLeaves_26 a0 a1 none h) else (if t < hz h ∧ hk h t = 7 then (Option.bind (hr h t 1) fun b16 => (if b16 < hz h ∧ hk h b16 = 9 then (Option.bind (hr h b16 0) fun b19 => (if b19 < hz h ∧ hk h b19 = 4 then (Option.bind (f_g_at b19 (hi h a1 4) h) fun r22 => (b_p_addLeaves_26 a0 a1 r22.1 r22.2)) else none)) else none)) else none)) else none)
set_option maxRecDepth 20000 in
theorem kf_p_addLeaves {l : Launch} {G : XG} {d : Nat} {t : Nat} {a0 : Nat} {a1 : Nat} {h : XH} {r : Unit × XH} (L0 : LY h) (hf : f_p_addLeaves t a0 a1 h = some r) : XC l G xEX7_addLeaves (d + 2) [.ref t, .ref a0, .ref a1] h (fun v h2 => (h2 = r.2 ∧ v = none) ∧ LY r.2) := by
  refine XC.virt xvX7_addLeaves (Nat.le_of_ble_eq_true rfl) ?_
  unfold f_p_addLeaves at hf
  refine XR.norm (L3 := [some (.ref t), some (.ref a0), some (.ref a1), none]) rfl ?_
  refine XS.go (s_aloadn rfl rfl rfl) ?_
  replace hf := xi_none hf
  obtain ⟨qk13, hf⟩ := hf
  refine XS.go (s_getie rfl xf7_158 qk13.1 qk13.2 (by decide) rfl rfl) ?_
  refine XS.go (s_iconst (v := 2) rfl rfl) ?_
  refine r_icmp_ne (tgt := 25) rfl rfl (fun qc14 => ?_) (fun qc14 => ?_)
  · replace hf := xi_pos hf qc14
    refine XS.go (s_null rfl) ?_
    exact XR.forget (L2 := [none, some (.ref a0), some (.ref a1), none]) ⟨rfl, ⟨rfl, trivial⟩⟩ (kb_p_addLeaves_26 L0 hf)
  · replace hf := xi_neg hf qc14
    refine XS.go (s_aloadn rfl rfl rfl) ?_
    replace hf := xi_none hf
    obtain ⟨qk15, hf⟩ := hf
    replace hf := xb_some hf
    obtain ⟨b16, qr17, hf⟩ := hf
    refine XS.go (s_getr rfl xf7_44 qk15.1 qk15.2 (by decide) rfl qr17) ?_
    replace hf := xi_none hf
    obtain ⟨qk18, hf⟩ := hf
    replace hf := xb_some hf
    obtain ⟨b19, qr20, hf⟩ := hf
    refine XS.go (s_getr rfl xf7_85 qk18.1 qk18.2 (by decide) rfl qr20) ?_
    refine XS.go (s_aloadn rfl rfl rfl) ?_
    refine XS.go (s_getie rfl xf7_69 qk13.1 qk13.2 (by decide) rfl rfl) ?_
    replace hf := xi_none hf
    obtain ⟨qk21, hf⟩ := hf
    replace hf := xb_some hf
    obtain ⟨r22, e23, hf⟩ := hf
    refine r_callv rfl xvX4_at xm7_195 (kf_g_at (d := d) L0 e23) qk21.1 qk21.2 (by decide) rfl rfl (dl0 (by decide)) (by decide) (Nat.le_of_ble_eq_true rfl) ?_
    rintro _ _ ⟨⟨rfl, rfl⟩, L24⟩
    refine XS.go (s_goto (tgt := 26) rfl rfl) ?_
    exact XR.forget (L2 := [none, some (.ref a0), some (.ref a1), none]) ⟨rfl, ⟨rfl, trivial⟩⟩ (kb_p_addLeaves_26 L24 hf)
def b_p_findLeaves_26 (K2 : Nat → Nat → Int32 → XH → Option (Unit × XH)) (x0 : Nat) (x1 : Nat) (x2 : Int32) (h : XH) : Option (Unit × XH) := (K2 x0 x1 (x2 + 1) h)
set_option maxRecDepth 20000 in
theorem kb_p_findLeaves_26 {l : Launch} {G : XG} {d : Nat} {K2 : Nat → Nat → Int32 → XH → Option (Unit × XH)} {x0 : Nat} {x1 : Nat} {x2 : Int32} {h : XH} {r : Unit × XH} (hK2 : ∀ (x0 : Nat) (x1 : Nat) (x2 : Int32) (h : XH), LY h → K2 x0 x1 x2 h = some r → XR l G xEX7_findLeaves (d + 3) (2, [some (.ref x0), some (.ref x1), some (.int x2), none], [], h) (fun C => ∃ v, xRet xEX7_findLeaves C v ∧ (C.2.2.2 = r.2 ∧ v = none) ∧ LY r.2)) (L0 : LY h) (hf : b_p_findLeaves_26 K2 x0 x1 x2 h = some r) : XR l G xEX7_findLeaves (d + 3) (26, [some (.ref x0), some (.ref x1), some (.int x2), none], [], h) (fun C => ∃ v, xRet xEX7_findLeaves C v ∧ (C.2.2.2 = r.2 ∧ v = none) ∧ LY r.2) := by
  unfold b_p_findLeaves_26 at hf
  refine XS.go (XS.lcl (L3 := [some (.ref x0), some (.ref x1), some (.int (x2 + 1)), none]) (s_inc rfl rfl (Nat.le_of_ble_eq_true rfl)) rfl) ?_
  refine XS.go (s_goto (tgt := 2) rfl rfl) ?_
  exact XR.forget (L2 := [some (.ref x0), some (.ref x1), some (.int (x2 + 1)), none]) ⟨rfl, ⟨rfl, ⟨rfl, trivial⟩⟩⟩ (hK2 x0 x1 (x2 + 1) _ L0 hf)
def s_p_findLeaves_2 (K2 : Nat → Nat → Int32 → XH → Option (Unit × XH)) (x0 : Nat) (x1 : Nat) (x2 : Int32) (h : XH) : Option (Unit × XH) := (if x1 < hz h ∧ hk h x1 = 2 then (if (hi h x1 3) ≤ x2 then (some ((), h)) else (Option.bind (f_d_fieldAt x1 x2 h) fun r3 => (Option.elim (r3.1) (b_p_findLeaves_26 K2 x0 x1 x2 r3.2) fun b7 => (if x0 < hz r3.2 ∧ hk r3.2 x0 = 7 then (Option.bind (f_p_addLeaves x0 x1 b7 r3.2) fun r9 => (b_p_findLeaves_26 K2 x0 x1 x2 r9.2)) else none)))) else none)
set_option maxRecDepth 20000 in
theorem ks_p_findLeaves_2 {l : Launch} {G : XG} {d : Nat} {K2 : Nat → Nat → Int32 → XH → Option (Unit × XH)} {x0 : Nat} {x1 : Nat} {x2 : Int32} {h : XH} {r : Unit × XH} (hK2 : ∀ (x0 : Nat) (x1 : Nat) (x2 : Int32) (h : XH), LY h → K2 x0 x1 x2 h = some r → XR l G xEX7_findLeaves (d + 3) (2, [some (.ref x0), some (.ref x1), some (.int x2), none], [], h) (fun C => ∃ v, xRet xEX7_findLeaves C v ∧ (C.2.2.2 = r.2 ∧ v = none) ∧ LY r.2)) (L0 : LY h) (hf : s_p_findLeaves_2 K2 x0 x1 x2 h = some r) : XR l G xEX7_findLeaves (d + 3) (2, [some (.ref x0), some (.ref x1), some (.int x2), none], [], h) (fun C => ∃ v, xRet xEX7_findLeaves C v ∧ (C.2.2.2 = r.2 ∧ v = none) ∧ LY r.2) := by
  unfold s_p_findLeaves_2 at hf
  refine XS.go (s_iloadn rfl rfl rfl) ?_
  refine XS.go (s_aloadn rfl rfl rfl) ?_
  replace hf := xi_none hf
  obtain ⟨qk1, hf⟩ := hf
  refine XS.go (s_getie rfl xf7_163 qk1.1 qk1.2 (by decide) rfl rfl) ?_
  refine r_icmp_ge (tgt := 32) rfl rfl (fun qc2 => ?_) (fun qc2 => ?_)
  · replace hf := xi_pos hf qc2
    cases hf
    exact XR.retv rfl rfl (fun hret => ⟨_, hret, ⟨rfl, rfl⟩, L0⟩)
  · replace hf := xi_neg hf qc2
    refine XS.go (s_aloadn rfl rfl rfl) ?_
    refine XS.go (s_iloadn rfl rfl rfl) ?_
    replace hf := xb_some hf
    obtain ⟨r3, e4, hf⟩ := hf
    refine r_callv rfl xvX2_fieldAt xm7_166 (kf_d_fieldAt (d := d) L0 e4) qk1.1 qk1.2 (by decide) rfl rfl (dl0 (by decide)) (by decide) (Nat.le_of_ble_eq_true rfl) ?_
    rintro _ _ ⟨⟨rfl, rfl⟩, L5⟩
    refine XS.go (XS.lcl (L3 := [some (.ref x0), some (.ref x1), some (.int x2), some (va_rf r3.1)]) (s_astorenO rfl rfl (Nat.le_of_ble_eq_true rfl)) rfl) ?_
    refine XS.go (s_aloadnO rfl rfl rfl) ?_
    refine r_ifnull (tgt := 26) rfl rfl (fun qn6 => ?_) (fun b7 qn6 => ?_)
    · replace hf := xo_none hf qn6
      try rw [qn6]
      exact XR.forget (L2 := [some (.ref x0), some (.ref x1), some (.int x2), none]) ⟨rfl, ⟨rfl, ⟨rfl, trivial⟩⟩⟩ (kb_p_findLeaves_26 hK2 L5 hf)
    · replace hf := xo_some hf qn6
      try rw [qn6]
      refine XS.go (s_aloadn rfl rfl rfl) ?_
      refine XS.go (s_aloadn rfl rfl rfl) ?_
      refine XS.go (s_aloadn rfl rfl rfl) ?_
      replace hf := xi_none hf
      obtain ⟨qk8, hf⟩ := hf
      replace hf := xb_some hf
      obtain ⟨r9, e10, hf⟩ := hf
      refine r_callv rfl xvX7_addLeaves xm7_191 (kf_p_addLeaves (d := d) L5 e10) qk8.1 qk8.2 (by decide) rfl rfl (dl (by decide)) (by decide) (Nat.le_of_ble_eq_true rfl) ?_
      rintro _ _ ⟨⟨rfl, rfl⟩, L11⟩
      exact XR.forget (L2 := [some (.ref x0), some (.ref x1), some (.int x2), none]) ⟨rfl, ⟨rfl, ⟨rfl, trivial⟩⟩⟩ (kb_p_findLeaves_26 hK2 L11 hf)
def b_p_findLeaves_2 : Nat → Nat → Nat → Int32 → XH → Option (Unit × XH)
  | 0, _, _, _, _ => none
  | n + 1, x0, x1, x2, h => s_p_findLeaves_2 (b_p_findLeaves_2 n) x0 x1 x2 h
theorem kb_p_findLeaves_2 {l : Launch} {G : XG} {d : Nat} {n : Nat} {x0 : Nat} {x1 : Nat} {x2 : Int32} {h : XH} {r : Unit × XH} (L0 : LY h) (hf : b_p_findLeaves_2 n x0 x1 x2 h = some r) : XR l G xEX7_findLeaves (d + 3) (2, [some (.ref x0), some (.ref x1), some (.int x2), none], [], h) (fun C => ∃ v, xRet xEX7_findLeaves C v ∧ (C.2.2.2 = r.2 ∧ v = none) ∧ LY r.2) := by
  induction n generalizing x0 x1 x2 h with
  | zero => cases hf
  | succ n ih => exact ks_p_findLeaves_2 (fun x0 x1 x2 h L0 hf => ih (h := h) (x0 := x0) (x1 := x1) (x2 := x2) L0 hf) L0 hf
def f_p_findLeaves (t : Nat) (a0 : Nat) (h : XH) : Option (Unit × XH) := (b_p_findLeaves_2 100000 t a0 0 h)
set_option maxRecDepth 20000 in
theorem kf_p_findLeaves {l : Launch} {G : XG} {d : Nat} {t : Nat} {a0 : Nat} {h : XH} {r : Unit × XH} (L0 : LY h) (hf : f_p_findLeaves t a0 h = some r) : XC l G xEX7_findLeaves (d + 3) [.ref t, .ref a0] h (fun v h2 => (h2 = r.2 ∧ v = none) ∧ LY r.2) := by
  refine XC.virt xvX7_findLeaves (Nat.le_of_ble_eq_true rfl) ?_
  unfold f_p_findLeaves at hf
  refine XR.norm (L3 := [some (.ref t), some (.ref a0), none, none]) rfl ?_
  refine XS.go (s_iconst (v := 0) rfl rfl) ?_
  refine XS.go (XS.lcl (L3 := [some (.ref t), some (.ref a0), some (.int 0), none]) (s_istoren rfl rfl (Nat.le_of_ble_eq_true rfl)) rfl) ?_
  exact XR.forget (L2 := [some (.ref t), some (.ref a0), some (.int 0), none]) ⟨rfl, ⟨rfl, ⟨rfl, trivial⟩⟩⟩ (kb_p_findLeaves_2 L0 hf)
def b_p_layOut_87 (K2 : Nat → Nat → Int32 → XH → Option (Unit × XH)) (x0 : Nat) (x1 : Nat) (x2 : Int32) (h : XH) : Option (Unit × XH) := (K2 x0 x1 (x2 + 1) h)
set_option maxRecDepth 20000 in
theorem kb_p_layOut_87 {l : Launch} {G : XG} {d : Nat} {K2 : Nat → Nat → Int32 → XH → Option (Unit × XH)} {x0 : Nat} {x1 : Nat} {x2 : Int32} {h : XH} {r : Unit × XH} (hK2 : ∀ (x0 : Nat) (x1 : Nat) (x2 : Int32) (h : XH), LY h → K2 x0 x1 x2 h = some r → XR l G xEX7_layOut (d + 2) (2, [some (.ref x0), some (.ref x1), some (.int x2), none, none], [], h) (fun C => ∃ v, xRet xEX7_layOut C v ∧ (C.2.2.2 = r.2 ∧ v = none) ∧ LY r.2)) (L0 : LY h) (hf : b_p_layOut_87 K2 x0 x1 x2 h = some r) : XR l G xEX7_layOut (d + 2) (87, [some (.ref x0), some (.ref x1), some (.int x2), none, none], [], h) (fun C => ∃ v, xRet xEX7_layOut C v ∧ (C.2.2.2 = r.2 ∧ v = none) ∧ LY r.2) := by
  unfold b_p_layOut_87 at hf
  refine XS.go (XS.lcl (L3 := [some (.ref x0), some (.ref x1), some (.int (x2 + 1)), none, none]) (s_inc rfl rfl (Nat.le_of_ble_eq_true rfl)) rfl) ?_
  refine XS.go (s_goto (tgt := 2) rfl rfl) ?_
  exact XR.forget (L2 := [some (.ref x0), some (.ref x1), some (.int (x2 + 1)), none, none]) ⟨rfl, ⟨rfl, ⟨rfl, trivial⟩⟩⟩ (hK2 x0 x1 (x2 + 1) _ L0 hf)
def s_p_layOut_2 (K2 : Nat → Nat → Int32 → XH → Option (Unit × XH)) (x0 : Nat) (x1 : Nat) (x2 : Int32) (h : XH) : Option (Unit × XH) := (if x1 < hz h ∧ hk h x1 = 2 then (if (hi h x1 3) ≤ x2 then (Option.bind (f_t_roundUp (hi h x1 6) (hi h x1 7) h) fun r3 => (if x1 < hz r3.2 ∧ hk r3.2 x1 = 2 then (some ((), (hsi r3.2 x1 6 r3.1))) else none)) else (Option.bind (f_d_fieldAt x1 x2 h) fun r7 => (Option.elim (r7.1) (b_p_layOut_87 K2 x0 x1 x2 r7.2) fun b11 => (if x0 < hz r7.2 ∧ hk r7.2 x0 = 7 then (Option.bind (hr r7.2 x0 1) fun b13 => (if b11 < hz r7.2 ∧ hk r7.2 b11 = 3 then (if b13 < hz r7.2 ∧ hk r7.2 b13 = 9 then (Option.bind (f_s_alignmentOf b13 (hi r7.2 b11 3) (hi r7.2 b11 4) r7.2) fun r17 => (if x1 < hz r17.2 ∧ hk r17.2 x1 = 2 then (Option.bind (f_t_roundUp (hi r17.2 x1 6) r17.1 r17.2) fun r21 => (if b11 < hz r21.2 ∧ hk r21.2 b11 = 3 then (if x0 < hz r21.2 ∧ hk r21.2 x0 = 7 then (Option.bind (hr r21.2 x0 1) fun b26 => (if b26 < hz r21.2 ∧ hk r21.2 b26 = 9 then (Option.bind (f_s_bytesOf b26 (hi r21.2 b11 3) (hi r21.2 b11 4) (hsi r21.2 b11 6 r21.1)) fun r29 => (if x1 < hz r29.2 ∧ hk r29.2 x1 = 2 then (b_p_layOut_87 K2 x0 x1 x2 (hsi (hsi r29.2 x1 6 (r21.1 + r29.1)) x1 7 (if (hi r29.2 x1 7) < r17.1 then r17.1 else (hi r29.2 x1 7)))) else none)) else none)) else none) else none)) else none)) else none) else none)) else none)))) else none)
set_option maxRecDepth 20000 in
theorem ks_p_layOut_2 {l : Launch} {G : XG} {d : Nat} {K2 : Nat → Nat → Int32 → XH → Option (Unit × XH)} {x0 : Nat} {x1 : Nat} {x2 : Int32} {h : XH} {r : Unit × XH} (hK2 : ∀ (x0 : Nat) (x1 : Nat) (x2 : Int32) (h : XH), LY h → K2 x0 x1 x2 h = some r → XR l G xEX7_layOut (d + 2) (2, [some (.ref x0), some (.ref x1), some (.int x2), none, none], [], h) (fun C => ∃ v, xRet xEX7_layOut C v ∧ (C.2.2.2 = r.2 ∧ v = none) ∧ LY r.2)) (L0 : LY h) (hf : s_p_layOut_2 K2 x0 x1 x2 h = some r) : XR l G xEX7_layOut (d + 2) (2, [some (.ref x0), some (.ref x1), some (.int x2), none, none], [], h) (fun C => ∃ v, xRet xEX7_layOut C v ∧ (C.2.2.2 = r.2 ∧ v = none) ∧ LY r.2) := by
  unfold s_p_layOut_2 at hf
  refine XS.go (s_iloadn rfl rfl rfl) ?_
  refine XS.go (s_aloadn rfl rfl rfl) ?_
  replace hf := xi_none hf
  obtain ⟨qk1, hf⟩ := hf
  refine XS.go (s_getie rfl xf7_163 qk1.1 qk1.2 (by decide) rfl rfl) ?_
  refine r_icmp_ge (tgt := 93) rfl rfl (fun qc2 => ?_) (fun qc2 => ?_)
  · replace hf := xi_pos hf qc2
    refine XS.go (s_aloadn rfl rfl rfl) ?_
    refine XS.go (s_aloadn rfl rfl rfl) ?_
    refine XS.go (s_getie rfl xf7_149 qk1.1 qk1.2 (by decide) rfl rfl) ?_
    refine XS.go (s_aloadn rfl rfl rfl) ?_
    refine XS.go (s_getie rfl xf7_183 qk1.1 qk1.2 (by decide) rfl rfl) ?_
    replace hf := xb_some hf
    obtain ⟨r3, e4, hf⟩ := hf
    refine r_callsn rfl xsX11_roundUp (List.mem_of_getElem? (i := 13) rfl) (kf_t_roundUp (d := d) L0 e4) rfl rfl (dl0 (by decide)) (by decide) (Nat.le_of_ble_eq_true rfl) ?_
    rintro _ _ ⟨⟨rfl, rfl⟩, L5⟩
    replace hf := xi_none hf
    obtain ⟨qk6, hf⟩ := hf
    refine XS.go (s_puti rfl xf7_149 qk6.1 qk6.2 (by decide) rfl (Or.inl rfl)) ?_
    cases hf
    exact XR.retv rfl rfl (fun hret => ⟨_, hret, ⟨rfl, rfl⟩, (by simp only [LY_si, LY_sj]; exact L5)⟩)
  · replace hf := xi_neg hf qc2
    refine XS.go (s_aloadn rfl rfl rfl) ?_
    refine XS.go (s_iloadn rfl rfl rfl) ?_
    replace hf := xb_some hf
    obtain ⟨r7, e8, hf⟩ := hf
    refine r_callv rfl xvX2_fieldAt xm7_166 (kf_d_fieldAt (d := d) L0 e8) qk1.1 qk1.2 (by decide) rfl rfl (dl0 (by decide)) (by decide) (Nat.le_of_ble_eq_true rfl) ?_
    rintro _ _ ⟨⟨rfl, rfl⟩, L9⟩
    refine XS.go (XS.lcl (L3 := [some (.ref x0), some (.ref x1), some (.int x2), some (va_rf r7.1), none]) (s_astorenO rfl rfl (Nat.le_of_ble_eq_true rfl)) rfl) ?_
    refine XS.go (s_aloadnO rfl rfl rfl) ?_
    refine r_ifnull (tgt := 87) rfl rfl (fun qn10 => ?_) (fun b11 qn10 => ?_)
    · replace hf := xo_none hf qn10
      try rw [qn10]
      exact XR.forget (L2 := [some (.ref x0), some (.ref x1), some (.int x2), none, none]) ⟨rfl, ⟨rfl, ⟨rfl, trivial⟩⟩⟩ (kb_p_layOut_87 hK2 L9 hf)
    · replace hf := xo_some hf qn10
      try rw [qn10]
      refine XS.go (s_aloadn rfl rfl rfl) ?_
      replace hf := xi_none hf
      obtain ⟨qk12, hf⟩ := hf
      replace hf := xb_some hf
      obtain ⟨b13, qr14, hf⟩ := hf
      refine XS.go (s_getr rfl xf7_44 qk12.1 qk12.2 (by decide) rfl qr14) ?_
      refine XS.go (s_aloadn rfl rfl rfl) ?_
      replace hf := xi_none hf
      obtain ⟨qk15, hf⟩ := hf
      refine XS.go (s_getie rfl xf7_158 qk15.1 qk15.2 (by decide) rfl rfl) ?_
      refine XS.go (s_aloadn rfl rfl rfl) ?_
      refine XS.go (s_getie rfl xf7_69 qk15.1 qk15.2 (by decide) rfl rfl) ?_
      replace hf := xi_none hf
      obtain ⟨qk16, hf⟩ := hf
      replace hf := xb_some hf
      obtain ⟨r17, e18, hf⟩ := hf
      refine r_callv rfl xvX9_alignmentOf xm7_170 (kf_s_alignmentOf (d := d) L9 e18) qk16.1 qk16.2 (by decide) rfl rfl (dl (by decide)) (by decide) (Nat.le_of_ble_eq_true rfl) ?_
      rintro _ _ ⟨⟨rfl, rfl⟩, L19⟩
      refine XS.go (XS.lcl (L3 := [some (.ref x0), some (.ref x1), some (.int x2), some (.ref b11), some (.int r17.1)]) (s_istore rfl (Nat.le_of_ble_eq_true rfl)) rfl) ?_
      refine XS.go (s_aloadn rfl rfl rfl) ?_
      refine XS.go (s_aloadn rfl rfl rfl) ?_
      replace hf := xi_none hf
      obtain ⟨qk20, hf⟩ := hf
      refine XS.go (s_getie rfl xf7_149 qk20.1 qk20.2 (by decide) rfl rfl) ?_
      refine XS.go (s_iload rfl rfl) ?_
      replace hf := xb_some hf
      obtain ⟨r21, e22, hf⟩ := hf
      refine r_callsn rfl xsX11_roundUp (List.mem_of_getElem? (i := 13) rfl) (kf_t_roundUp (d := d) L19 e22) rfl rfl (dl0 (by decide)) (by decide) (Nat.le_of_ble_eq_true rfl) ?_
      rintro _ _ ⟨⟨rfl, rfl⟩, L23⟩
      replace hf := xi_none hf
      obtain ⟨qk24, hf⟩ := hf
      refine XS.go (s_puti rfl xf7_177 qk24.1 qk24.2 (by decide) rfl (Or.inl rfl)) ?_
      refine XS.go (s_aloadn rfl rfl rfl) ?_
      refine XS.go (s_aloadn rfl rfl rfl) ?_
      refine XS.go (s_getie rfl xf7_177 (show b11 < hz _ by simp only [hz_hsi, hk_hsi, hz_hsj, hk_hsj]; exact qk24.1) (by simp only [hz_hsi, hk_hsi, hz_hsj, hk_hsj]; exact qk24.2) (by decide) rfl hi_hsi_eq) ?_
      refine XS.go (s_aloadn rfl rfl rfl) ?_
      replace hf := xi_none hf
      obtain ⟨qk25, hf⟩ := hf
      replace hf := xb_some hf
      obtain ⟨b26, qr27, hf⟩ := hf
      refine XS.go (s_getr rfl xf7_44 (show x0 < hz _ by simp only [hz_hsi, hk_hsi, hz_hsj, hk_hsj]; exact qk25.1) (by simp only [hz_hsi, hk_hsi, hz_hsj, hk_hsj]; exact qk25.2) (by decide) rfl (by simp only [hr_hsi, hr_hsj]; exact qr27)) ?_
      refine XS.go (s_aloadn rfl rfl rfl) ?_
      refine XS.go (s_getie rfl xf7_158 (show b11 < hz _ by simp only [hz_hsi, hk_hsi, hz_hsj, hk_hsj]; exact qk24.1) (by simp only [hz_hsi, hk_hsi, hz_hsj, hk_hsj]; exact qk24.2) (by decide) rfl (hi_hsi_nk (by decide))) ?_
      refine XS.go (s_aloadn rfl rfl rfl) ?_
      refine XS.go (s_getie rfl xf7_69 (show b11 < hz _ by simp only [hz_hsi, hk_hsi, hz_hsj, hk_hsj]; exact qk24.1) (by simp only [hz_hsi, hk_hsi, hz_hsj, hk_hsj]; exact qk24.2) (by decide) rfl (hi_hsi_nk (by decide))) ?_
      replace hf := xi_none hf
      obtain ⟨qk28, hf⟩ := hf
      replace hf := xb_some hf
      obtain ⟨r29, e30, hf⟩ := hf
      refine r_callv rfl xvX9_bytesOf xm7_180 (kf_s_bytesOf (d := d) (by simp only [LY_si, LY_sj]; exact L23) e30) (show b26 < hz _ by simp only [hz_hsi, hk_hsi, hz_hsj, hk_hsj]; exact qk28.1) (by simp only [hz_hsi, hk_hsi, hz_hsj, hk_hsj]; exact qk28.2) (by decide) rfl rfl (dl (by decide)) (by decide) (Nat.le_of_ble_eq_true rfl) ?_
      rintro _ _ ⟨⟨rfl, rfl⟩, L31⟩
      refine XS.go (s_iadd rfl) ?_
      replace hf := xi_none hf
      obtain ⟨qk32, hf⟩ := hf
      refine XS.go (s_puti rfl xf7_149 qk32.1 qk32.2 (by decide) rfl (Or.inl rfl)) ?_
      refine XS.go (s_aloadn rfl rfl rfl) ?_
      refine XS.go (s_aloadn rfl rfl rfl) ?_
      refine XS.go (s_getie rfl xf7_183 (show x1 < hz _ by simp only [hz_hsi, hk_hsi, hz_hsj, hk_hsj]; exact qk32.1) (by simp only [hz_hsi, hk_hsi, hz_hsj, hk_hsj]; exact qk32.2) (by decide) rfl (hi_hsi_nk (by decide))) ?_
      refine XS.go (s_iload rfl rfl) ?_
      refine XS.go (s_max rfl (lg_5 129 rfl rfl) (dl1 (by decide)) (Nat.le_of_ble_eq_true rfl)) ?_
      refine XS.go (s_puti rfl xf7_183 (show x1 < hz _ by simp only [hz_hsi, hk_hsi, hz_hsj, hk_hsj]; exact qk32.1) (by simp only [hz_hsi, hk_hsi, hz_hsj, hk_hsj]; exact qk32.2) (by decide) rfl (Or.inl rfl)) ?_
      exact XR.forget (L2 := [some (.ref x0), some (.ref x1), some (.int x2), none, none]) ⟨rfl, ⟨rfl, ⟨rfl, trivial⟩⟩⟩ (kb_p_layOut_87 hK2 (by simp only [LY_si, LY_sj]; exact L31) hf)
def b_p_layOut_2 : Nat → Nat → Nat → Int32 → XH → Option (Unit × XH)
  | 0, _, _, _, _ => none
  | n + 1, x0, x1, x2, h => s_p_layOut_2 (b_p_layOut_2 n) x0 x1 x2 h
theorem kb_p_layOut_2 {l : Launch} {G : XG} {d : Nat} {n : Nat} {x0 : Nat} {x1 : Nat} {x2 : Int32} {h : XH} {r : Unit × XH} (L0 : LY h) (hf : b_p_layOut_2 n x0 x1 x2 h = some r) : XR l G xEX7_layOut (d + 2) (2, [some (.ref x0), some (.ref x1), some (.int x2), none, none], [], h) (fun C => ∃ v, xRet xEX7_layOut C v ∧ (C.2.2.2 = r.2 ∧ v = none) ∧ LY r.2) := by
  induction n generalizing x0 x1 x2 h with
  | zero => cases hf
  | succ n ih => exact ks_p_layOut_2 (fun x0 x1 x2 h L0 hf => ih (h := h) (x0 := x0) (x1 := x1) (x2 := x2) L0 hf) L0 hf
def f_p_layOut (t : Nat) (a0 : Nat) (h : XH) : Option (Unit × XH) := (b_p_layOut_2 100000 t a0 0 h)
set_option maxRecDepth 20000 in
theorem kf_p_layOut {l : Launch} {G : XG} {d : Nat} {t : Nat} {a0 : Nat} {h : XH} {r : Unit × XH} (L0 : LY h) (hf : f_p_layOut t a0 h = some r) : XC l G xEX7_layOut (d + 2) [.ref t, .ref a0] h (fun v h2 => (h2 = r.2 ∧ v = none) ∧ LY r.2) := by
  refine XC.virt xvX7_layOut (Nat.le_of_ble_eq_true rfl) ?_
  unfold f_p_layOut at hf
  refine XR.norm (L3 := [some (.ref t), some (.ref a0), none, none, none]) rfl ?_
  refine XS.go (s_iconst (v := 0) rfl rfl) ?_
  refine XS.go (XS.lcl (L3 := [some (.ref t), some (.ref a0), some (.int 0), none, none]) (s_istoren rfl rfl (Nat.le_of_ble_eq_true rfl)) rfl) ?_
  exact XR.forget (L2 := [some (.ref t), some (.ref a0), some (.int 0), none, none]) ⟨rfl, ⟨rfl, ⟨rfl, trivial⟩⟩⟩ (kb_p_layOut_2 L0 hf)
def f_p_newField (t : Nat) (a0 : Nat) (h : XH) : Option (Option Nat × XH) := (if t < hz h ∧ hk h t = 7 then (if (hi h t 6) = 2 then (Option.bind (hr h t 0) fun b3 => (if b3 = 7 then (Option.bind (f_x_head (hi h t 5) h) fun r6 => (if t < hz r6.2 ∧ hk r6.2 t = 7 then (Option.bind (hr r6.2 t 0) fun b10 => (if b10 = 7 then (Option.bind (f_x_tail (hi r6.2 t 5) r6.2) fun r13 => (if a0 < hz r13.2 ∧ hk r13.2 a0 = 2 then (Option.bind (f_d_fieldNamed a0 r6.1 r13.1 r13.2) fun r17 => (if r17.1 = (-1) then (if t < hz r17.2 ∧ hk r17.2 t = 7 then (Option.bind (hr r17.2 t 0) fun b22 => (if b22 = 7 then (Option.bind (f_x_head (hi r17.2 t 5) r17.2) fun r25 => (if t < hz r25.2 ∧ hk r25.2 t = 7 then (Option.bind (hr r25.2 t 0) fun b29 => (if b29 = 7 then (Option.bind (f_x_tail (hi r25.2 t 5) r25.2) fun r32 => (if a0 < hz r32.2 ∧ hk r32.2 a0 = 2 then (Option.bind (f_d_addField a0 r25.1 r32.1 r32.2) fun r36 => (Option.elim (r36.1) (if t < hz r36.2 ∧ hk r36.2 t = 7 then (Option.bind (f_p_fail t 4 r36.2) fun r42 => (some (none, r42.2))) else none) fun b40 => (if t < hz r36.2 ∧ hk r36.2 t = 7 then (Option.bind (f_p_advance t r36.2) fun r46 => (some (some b40, r46.2))) else none))) else none)) else none)) else none)) else none)) else none) else (if t < hz r17.2 ∧ hk r17.2 t = 7 then (Option.bind (f_p_fail t 3 r17.2) fun r50 => (some (none, r50.2))) else none))) else none)) else none)) else none)) else none)) else (Option.bind (f_p_fail t 2 h) fun r53 => (some (none, r53.2)))) else none)
set_option maxRecDepth 20000 in
theorem kf_p_newField {l : Launch} {G : XG} {d : Nat} {t : Nat} {a0 : Nat} {h : XH} {r : Option Nat × XH} (L0 : LY h) (hf : f_p_newField t a0 h = some r) : XC l G xEX7_newField (d + 2) [.ref t, .ref a0] h (fun v h2 => (h2 = r.2 ∧ v = some (va_rf r.1)) ∧ LY r.2) := by
  refine XC.virt xvX7_newField (Nat.le_of_ble_eq_true rfl) ?_
  unfold f_p_newField at hf
  refine XR.norm (L3 := [some (.ref t), some (.ref a0), none]) rfl ?_
  refine XS.go (s_aloadn rfl rfl rfl) ?_
  replace hf := xi_none hf
  obtain ⟨qk1, hf⟩ := hf
  refine XS.go (s_getie rfl xf7_31 qk1.1 qk1.2 (by decide) rfl rfl) ?_
  refine XS.go (s_iconst (v := 2) rfl rfl) ?_
  refine r_icmp_eq (tgt := 16) rfl rfl (fun qc2 => ?_) (fun qc2 => ?_)
  · replace hf := xi_pos hf qc2
    refine XS.go (s_aloadn rfl rfl rfl) ?_
    refine XS.go (s_aloadn rfl rfl rfl) ?_
    replace hf := xb_some hf
    obtain ⟨b3, qr4, hf⟩ := hf
    refine XS.go (s_getr rfl xf7_40 qk1.1 qk1.2 (by decide) rfl qr4) ?_
    refine XS.go (s_aloadn rfl rfl rfl) ?_
    refine XS.go (s_getie rfl xf7_26 qk1.1 qk1.2 (by decide) rfl rfl) ?_
    replace hf := xi_none hf
    obtain ⟨qk5, hf⟩ := hf
    subst qk5
    replace hf := xb_some hf
    obtain ⟨r6, e7, hf⟩ := hf
    refine r_callv rfl xvX6_head xm7_109 (kf_x_head (d := d) L0 e7) (LY.lt L0 (by decide)) (LY.k7 L0) (by decide) rfl rfl (dl0 (by decide)) (by decide) (Nat.le_of_ble_eq_true rfl) ?_
    rintro _ _ ⟨⟨rfl, rfl⟩, L8⟩
    refine XS.go (s_aloadn rfl rfl rfl) ?_
    replace hf := xi_none hf
    obtain ⟨qk9, hf⟩ := hf
    replace hf := xb_some hf
    obtain ⟨b10, qr11, hf⟩ := hf
    refine XS.go (s_getr rfl xf7_40 qk9.1 qk9.2 (by decide) rfl qr11) ?_
    refine XS.go (s_aloadn rfl rfl rfl) ?_
    refine XS.go (s_getie rfl xf7_26 qk9.1 qk9.2 (by decide) rfl rfl) ?_
    replace hf := xi_none hf
    obtain ⟨qk12, hf⟩ := hf
    subst qk12
    replace hf := xb_some hf
    obtain ⟨r13, e14, hf⟩ := hf
    refine r_callv rfl xvX6_tail xm7_113 (kf_x_tail (d := d) L8 e14) (LY.lt L8 (by decide)) (LY.k7 L8) (by decide) rfl rfl (dl0 (by decide)) (by decide) (Nat.le_of_ble_eq_true rfl) ?_
    rintro _ _ ⟨⟨rfl, rfl⟩, L15⟩
    replace hf := xi_none hf
    obtain ⟨qk16, hf⟩ := hf
    replace hf := xb_some hf
    obtain ⟨r17, e18, hf⟩ := hf
    refine r_callv rfl xvX2_fieldNamed xm7_124 (kf_d_fieldNamed (d := d) L15 e18) qk16.1 qk16.2 (by decide) rfl rfl (dl0 (by decide)) (by decide) (Nat.le_of_ble_eq_true rfl) ?_
    rintro _ _ ⟨⟨rfl, rfl⟩, L19⟩
    refine XS.go (s_iconst (v := (-1)) rfl rfl) ?_
    refine r_icmp_eq (tgt := 54) rfl rfl (fun qc20 => ?_) (fun qc20 => ?_)
    · replace hf := xi_pos hf qc20
      refine XS.go (s_aloadn rfl rfl rfl) ?_
      refine XS.go (s_aloadn rfl rfl rfl) ?_
      replace hf := xi_none hf
      obtain ⟨qk21, hf⟩ := hf
      replace hf := xb_some hf
      obtain ⟨b22, qr23, hf⟩ := hf
      refine XS.go (s_getr rfl xf7_40 qk21.1 qk21.2 (by decide) rfl qr23) ?_
      refine XS.go (s_aloadn rfl rfl rfl) ?_
      refine XS.go (s_getie rfl xf7_26 qk21.1 qk21.2 (by decide) rfl rfl) ?_
      replace hf := xi_none hf
      obtain ⟨qk24, hf⟩ := hf
      subst qk24
      replace hf := xb_some hf
      obtain ⟨r25, e26, hf⟩ := hf
      refine r_callv rfl xvX6_head xm7_109 (kf_x_head (d := d) L19 e26) (LY.lt L19 (by decide)) (LY.k7 L19) (by decide) rfl rfl (dl0 (by decide)) (by decide) (Nat.le_of_ble_eq_true rfl) ?_
      rintro _ _ ⟨⟨rfl, rfl⟩, L27⟩
      refine XS.go (s_aloadn rfl rfl rfl) ?_
      replace hf := xi_none hf
      obtain ⟨qk28, hf⟩ := hf
      replace hf := xb_some hf
      obtain ⟨b29, qr30, hf⟩ := hf
      refine XS.go (s_getr rfl xf7_40 qk28.1 qk28.2 (by decide) rfl qr30) ?_
      refine XS.go (s_aloadn rfl rfl rfl) ?_
      refine XS.go (s_getie rfl xf7_26 qk28.1 qk28.2 (by decide) rfl rfl) ?_
      replace hf := xi_none hf
      obtain ⟨qk31, hf⟩ := hf
      subst qk31
      replace hf := xb_some hf
      obtain ⟨r32, e33, hf⟩ := hf
      refine r_callv rfl xvX6_tail xm7_113 (kf_x_tail (d := d) L27 e33) (LY.lt L27 (by decide)) (LY.k7 L27) (by decide) rfl rfl (dl0 (by decide)) (by decide) (Nat.le_of_ble_eq_true rfl) ?_
      rintro _ _ ⟨⟨rfl, rfl⟩, L34⟩
      replace hf := xi_none hf
      obtain ⟨qk35, hf⟩ := hf
      replace hf := xb_some hf
      obtain ⟨r36, e37, hf⟩ := hf
      refine r_callv rfl xvX2_addField xm7_130 (kf_d_addField (d := d) L34 e37) qk35.1 qk35.2 (by decide) rfl rfl (dl (by decide)) (by decide) (Nat.le_of_ble_eq_true rfl) ?_
      rintro _ _ ⟨⟨rfl, rfl⟩, L38⟩
      refine XS.go (XS.lcl (L3 := [some (.ref t), some (.ref a0), some (va_rf r36.1)]) (s_astorenO rfl rfl (Nat.le_of_ble_eq_true rfl)) rfl) ?_
      refine XS.go (s_aloadnO rfl rfl rfl) ?_
      refine r_ifnonnull (tgt := 93) rfl rfl (fun qn39 => ?_) (fun b40 qn39 => ?_)
      · replace hf := xo_none hf qn39
        try rw [qn39]
        refine XS.go (s_aloadn rfl rfl rfl) ?_
        refine XS.go (s_iconst (v := 4) rfl rfl) ?_
        replace hf := xi_none hf
        obtain ⟨qk41, hf⟩ := hf
        replace hf := xb_some hf
        obtain ⟨r42, e43, hf⟩ := hf
        refine r_callv rfl xvX7_fail xm7_78 (kf_p_fail (d := d) L38 e43) qk41.1 qk41.2 (by decide) rfl rfl (dl (by decide)) (by decide) (Nat.le_of_ble_eq_true rfl) ?_
        rintro _ _ ⟨⟨rfl, rfl⟩, L44⟩
        refine XS.go (s_pop rfl rfl) ?_
        refine XS.go (s_null rfl) ?_
        cases hf
        exact XR.reta (o := none) rfl rfl (fun hret => ⟨_, hret, ⟨rfl, rfl⟩, L44⟩)
      · replace hf := xo_some hf qn39
        try rw [qn39]
        refine XS.go (s_aloadn rfl rfl rfl) ?_
        replace hf := xi_none hf
        obtain ⟨qk45, hf⟩ := hf
        replace hf := xb_some hf
        obtain ⟨r46, e47, hf⟩ := hf
        refine r_callv rfl xvX7_advance xm7_82 (kf_p_advance (d := d) L38 e47) qk45.1 qk45.2 (by decide) rfl rfl (dl (by decide)) (by decide) (Nat.le_of_ble_eq_true rfl) ?_
        rintro _ _ ⟨⟨rfl, rfl⟩, L48⟩
        refine XS.go (s_aloadn rfl rfl rfl) ?_
        cases hf
        exact XR.reta (o := (some b40)) rfl rfl (fun hret => ⟨_, hret, ⟨rfl, rfl⟩, L48⟩)
    · replace hf := xi_neg hf qc20
      refine XS.go (s_aloadn rfl rfl rfl) ?_
      refine XS.go (s_iconst (v := 3) rfl rfl) ?_
      replace hf := xi_none hf
      obtain ⟨qk49, hf⟩ := hf
      replace hf := xb_some hf
      obtain ⟨r50, e51, hf⟩ := hf
      refine r_callv rfl xvX7_fail xm7_78 (kf_p_fail (d := d) L19 e51) qk49.1 qk49.2 (by decide) rfl rfl (dl (by decide)) (by decide) (Nat.le_of_ble_eq_true rfl) ?_
      rintro _ _ ⟨⟨rfl, rfl⟩, L52⟩
      refine XS.go (s_pop rfl rfl) ?_
      refine XS.go (s_null rfl) ?_
      cases hf
      exact XR.reta (o := none) rfl rfl (fun hret => ⟨_, hret, ⟨rfl, rfl⟩, L52⟩)
  · replace hf := xi_neg hf qc2
    refine XS.go (s_aloadn rfl rfl rfl) ?_
    refine XS.go (s_iconst (v := 2) rfl rfl) ?_
    replace hf := xb_some hf
    obtain ⟨r53, e54, hf⟩ := hf
    refine r_callv rfl xvX7_fail xm7_78 (kf_p_fail (d := d) L0 e54) qk1.1 qk1.2 (by decide) rfl rfl (dl (by decide)) (by decide) (Nat.le_of_ble_eq_true rfl) ?_
    rintro _ _ ⟨⟨rfl, rfl⟩, L55⟩
    refine XS.go (s_pop rfl rfl) ?_
    refine XS.go (s_null rfl) ?_
    cases hf
    exact XR.reta (o := none) rfl rfl (fun hret => ⟨_, hret, ⟨rfl, rfl⟩, L55⟩)
def b_p_readStructType_115 (x0 : Nat) (h : XH) : Option (Int32 × XH) := (if x0 < hz h ∧ hk h x0 = 7 then (Option.bind (f_p_advance x0 h) fun r2 => (some (1, r2.2))) else none)
set_option maxRecDepth 20000 in
theorem kb_p_readStructType_115 {l : Launch} {G : XG} {d : Nat} {x0 : Nat} {h : XH} {r : Int32 × XH} (L0 : LY h) (hf : b_p_readStructType_115 x0 h = some r) : XR l G xEX7_readStructType (d + 2) (115, [some (.ref x0), none, none, none], [], h) (fun C => ∃ v, xRet xEX7_readStructType C v ∧ (C.2.2.2 = r.2 ∧ v = some (.int r.1)) ∧ LY r.2) := by
  unfold b_p_readStructType_115 at hf
  refine XS.go (s_aloadn rfl rfl rfl) ?_
  replace hf := xi_none hf
  obtain ⟨qk1, hf⟩ := hf
  replace hf := xb_some hf
  obtain ⟨r2, e3, hf⟩ := hf
  refine r_callv rfl xvX7_advance xm7_82 (kf_p_advance (d := d) L0 e3) qk1.1 qk1.2 (by decide) rfl rfl (dl (by decide)) (by decide) (Nat.le_of_ble_eq_true rfl) ?_
  rintro _ _ ⟨⟨rfl, rfl⟩, L4⟩
  refine XS.go (s_iconst (v := 1) rfl rfl) ?_
  cases hf
  exact XR.retz rfl rfl (by decide) (fun hret => ⟨_, hret, ⟨rfl, rfl⟩, L4⟩)
def b_p_readStructType_87 (x0 : Nat) (h : XH) : Option (Int32 × XH) := (if x0 < hz h ∧ hk h x0 = 7 then (Option.bind (f_p_fail x0 5 h) fun r6 => (if r6.1 = 0 ∨ r6.1 = 1 then (some (r6.1, r6.2)) else none)) else none)
set_option maxRecDepth 20000 in
theorem kb_p_readStructType_87 {l : Launch} {G : XG} {d : Nat} {x0 : Nat} {h : XH} {r : Int32 × XH} (L0 : LY h) (hf : b_p_readStructType_87 x0 h = some r) : XR l G xEX7_readStructType (d + 2) (87, [some (.ref x0), none, none, none], [], h) (fun C => ∃ v, xRet xEX7_readStructType C v ∧ (C.2.2.2 = r.2 ∧ v = some (.int r.1)) ∧ LY r.2) := by
  unfold b_p_readStructType_87 at hf
  refine XS.go (s_aloadn rfl rfl rfl) ?_
  refine XS.go (s_iconst (v := 5) rfl rfl) ?_
  replace hf := xi_none hf
  obtain ⟨qk5, hf⟩ := hf
  replace hf := xb_some hf
  obtain ⟨r6, e7, hf⟩ := hf
  refine r_callv rfl xvX7_fail xm7_78 (kf_p_fail (d := d) L0 e7) qk5.1 qk5.2 (by decide) rfl rfl (dl (by decide)) (by decide) (Nat.le_of_ble_eq_true rfl) ?_
  rintro _ _ ⟨⟨rfl, rfl⟩, L8⟩
  replace hf := xi_none hf
  obtain ⟨qk9, hf⟩ := hf
  cases hf
  exact XR.retz rfl rfl qk9 (fun hret => ⟨_, hret, ⟨rfl, rfl⟩, L8⟩)
def f_p_readStructType (t : Nat) (a0 : Nat) (a1 : Nat) (h : XH) : Option (Int32 × XH) := (if t < hz h ∧ hk h t = 7 then (if ¬ (hi h t 6) = 4 then (if ¬ (hi h t 6) = 2 then (Option.bind (f_p_fail t 2 h) fun r13 => (if r13.1 = 0 ∨ r13.1 = 1 then (some (r13.1, r13.2)) else none)) else (Option.bind (hr h t 1) fun b17 => (Option.bind (hr h t 0) fun b19 => (if b19 = 7 then (Option.bind (f_x_head (hi h t 5) h) fun r22 => (if t < hz r22.2 ∧ hk r22.2 t = 7 then (Option.bind (hr r22.2 t 0) fun b26 => (if b26 = 7 then (Option.bind (f_x_tail (hi r22.2 t 5) r22.2) fun r29 => (if b17 < hz r29.2 ∧ hk r29.2 b17 = 9 then (Option.bind (f_s_named b17 r22.1 r29.1 r29.2) fun r33 => (Option.elim (r33.1) (b_p_readStructType_87 t r33.2) fun b37 => (if b37 < hz r33.2 ∧ hk r33.2 b37 = 2 then (if a0 < hz r33.2 ∧ hk r33.2 a0 = 2 then (if b37 = a0 then (b_p_readStructType_87 t r33.2) else (if (hi r33.2 b37 0) = 2 then (if a1 < hz r33.2 ∧ hk r33.2 a1 = 3 then (b_p_readStructType_115 t (hsi (hsi r33.2 a1 3 2) a1 4 (hi r33.2 b37 1))) else none) else (b_p_readStructType_87 t r33.2))) else none) else none))) else none)) else none)) else none)) else none)))) else (if a1 < hz h ∧ hk h a1 = 3 then (Option.bind (hr h t 0) fun b44 => (if b44 = 7 then (Option.bind (f_x_head (hi h t 5) (hsi h a1 3 0)) fun r47 => (if a1 < hz r47.2 ∧ hk r47.2 a1 = 3 then (b_p_readStructType_115 t (hsi r47.2 a1 4 (Int64.toInt32 r47.1))) else none)) else none)) else none)) else none)
set_option maxRecDepth 20000 in
theorem kf_p_readStructType {l : Launch} {G : XG} {d : Nat} {t : Nat} {a0 : Nat} {a1 : Nat} {h : XH} {r : Int32 × XH} (L0 : LY h) (hf : f_p_readStructType t a0 a1 h = some r) : XC l G xEX7_readStructType (d + 2) [.ref t, .ref a0, .ref a1] h (fun v h2 => (h2 = r.2 ∧ v = some (.int r.1)) ∧ LY r.2) := by
  refine XC.virt xvX7_readStructType (Nat.le_of_ble_eq_true rfl) ?_
  unfold f_p_readStructType at hf
  refine XR.norm (L3 := [some (.ref t), some (.ref a0), some (.ref a1), none]) rfl ?_
  refine XS.go (s_aloadn rfl rfl rfl) ?_
  replace hf := xi_none hf
  obtain ⟨qk10, hf⟩ := hf
  refine XS.go (s_getie rfl xf7_31 qk10.1 qk10.2 (by decide) rfl rfl) ?_
  refine XS.go (s_iconst (v := 4) rfl rfl) ?_
  refine r_icmp_ne (tgt := 32) rfl rfl (fun qc11 => ?_) (fun qc11 => ?_)
  · replace hf := xi_pos hf qc11
    refine XS.go (s_aloadn rfl rfl rfl) ?_
    refine XS.go (s_getie rfl xf7_31 qk10.1 qk10.2 (by decide) rfl rfl) ?_
    refine XS.go (s_iconst (v := 2) rfl rfl) ?_
    refine r_icmp_ne (tgt := 109) rfl rfl (fun qc12 => ?_) (fun qc12 => ?_)
    · replace hf := xi_pos hf qc12
      refine XS.go (s_aloadn rfl rfl rfl) ?_
      refine XS.go (s_iconst (v := 2) rfl rfl) ?_
      replace hf := xb_some hf
      obtain ⟨r13, e14, hf⟩ := hf
      refine r_callv rfl xvX7_fail xm7_78 (kf_p_fail (d := d) L0 e14) qk10.1 qk10.2 (by decide) rfl rfl (dl (by decide)) (by decide) (Nat.le_of_ble_eq_true rfl) ?_
      rintro _ _ ⟨⟨rfl, rfl⟩, L15⟩
      replace hf := xi_none hf
      obtain ⟨qk16, hf⟩ := hf
      cases hf
      exact XR.retz rfl rfl qk16 (fun hret => ⟨_, hret, ⟨rfl, rfl⟩, L15⟩)
    · replace hf := xi_neg hf qc12
      refine XS.go (s_aloadn rfl rfl rfl) ?_
      replace hf := xb_some hf
      obtain ⟨b17, qr18, hf⟩ := hf
      refine XS.go (s_getr rfl xf7_44 qk10.1 qk10.2 (by decide) rfl qr18) ?_
      refine XS.go (s_aloadn rfl rfl rfl) ?_
      replace hf := xb_some hf
      obtain ⟨b19, qr20, hf⟩ := hf
      refine XS.go (s_getr rfl xf7_40 qk10.1 qk10.2 (by decide) rfl qr20) ?_
      refine XS.go (s_aloadn rfl rfl rfl) ?_
      refine XS.go (s_getie rfl xf7_26 qk10.1 qk10.2 (by decide) rfl rfl) ?_
      replace hf := xi_none hf
      obtain ⟨qk21, hf⟩ := hf
      subst qk21
      replace hf := xb_some hf
      obtain ⟨r22, e23, hf⟩ := hf
      refine r_callv rfl xvX6_head xm7_109 (kf_x_head (d := d) L0 e23) (LY.lt L0 (by decide)) (LY.k7 L0) (by decide) rfl rfl (dl0 (by decide)) (by decide) (Nat.le_of_ble_eq_true rfl) ?_
      rintro _ _ ⟨⟨rfl, rfl⟩, L24⟩
      refine XS.go (s_aloadn rfl rfl rfl) ?_
      replace hf := xi_none hf
      obtain ⟨qk25, hf⟩ := hf
      replace hf := xb_some hf
      obtain ⟨b26, qr27, hf⟩ := hf
      refine XS.go (s_getr rfl xf7_40 qk25.1 qk25.2 (by decide) rfl qr27) ?_
      refine XS.go (s_aloadn rfl rfl rfl) ?_
      refine XS.go (s_getie rfl xf7_26 qk25.1 qk25.2 (by decide) rfl rfl) ?_
      replace hf := xi_none hf
      obtain ⟨qk28, hf⟩ := hf
      subst qk28
      replace hf := xb_some hf
      obtain ⟨r29, e30, hf⟩ := hf
      refine r_callv rfl xvX6_tail xm7_113 (kf_x_tail (d := d) L24 e30) (LY.lt L24 (by decide)) (LY.k7 L24) (by decide) rfl rfl (dl0 (by decide)) (by decide) (Nat.le_of_ble_eq_true rfl) ?_
      rintro _ _ ⟨⟨rfl, rfl⟩, L31⟩
      replace hf := xi_none hf
      obtain ⟨qk32, hf⟩ := hf
      replace hf := xb_some hf
      obtain ⟨r33, e34, hf⟩ := hf
      refine r_callv rfl xvX9_named xm7_116 (kf_s_named (d := d) L31 e34) qk32.1 qk32.2 (by decide) rfl rfl (dl0 (by decide)) (by decide) (Nat.le_of_ble_eq_true rfl) ?_
      rintro _ _ ⟨⟨rfl, rfl⟩, L35⟩
      refine XS.go (XS.lcl (L3 := [some (.ref t), some (.ref a0), some (.ref a1), some (va_rf r33.1)]) (s_astorenO rfl rfl (Nat.le_of_ble_eq_true rfl)) rfl) ?_
      refine XS.go (s_aloadnO rfl rfl rfl) ?_
      refine r_ifnull (tgt := 87) rfl rfl (fun qn36 => ?_) (fun b37 qn36 => ?_)
      · replace hf := xo_none hf qn36
        try rw [qn36]
        exact XR.forget (L2 := [some (.ref t), none, none, none]) ⟨rfl, trivial⟩ (kb_p_readStructType_87 L35 hf)
      · replace hf := xo_some hf qn36
        try rw [qn36]
        refine XS.go (s_aloadn rfl rfl rfl) ?_
        refine XS.go (s_aloadn rfl rfl rfl) ?_
        replace hf := xi_none hf
        obtain ⟨qk38, hf⟩ := hf
        replace hf := xi_none hf
        obtain ⟨qk39, hf⟩ := hf
        refine r_acmp_eq (tgt := 87) rfl rfl (Nat.lt_of_lt_of_le qk38.1 (Nat.le_trans L35.2.1 (by decide))) (Nat.lt_of_lt_of_le qk39.1 (Nat.le_trans L35.2.1 (by decide))) (fun qc40 => ?_) (fun qc40 => ?_)
        · replace hf := xi_pos hf qc40
          exact XR.forget (L2 := [some (.ref t), none, none, none]) ⟨rfl, trivial⟩ (kb_p_readStructType_87 L35 hf)
        · replace hf := xi_neg hf qc40
          refine XS.go (s_aloadn rfl rfl rfl) ?_
          refine XS.go (s_getie rfl xf7_161 qk38.1 qk38.2 (by decide) rfl rfl) ?_
          refine XS.go (s_iconst (v := 2) rfl rfl) ?_
          refine r_icmp_eq (tgt := 93) rfl rfl (fun qc41 => ?_) (fun qc41 => ?_)
          · replace hf := xi_pos hf qc41
            refine XS.go (s_aloadn rfl rfl rfl) ?_
            refine XS.go (s_iconst (v := 2) rfl rfl) ?_
            replace hf := xi_none hf
            obtain ⟨qk42, hf⟩ := hf
            refine XS.go (s_puti rfl xf7_158 qk42.1 qk42.2 (by decide) rfl (Or.inl rfl)) ?_
            refine XS.go (s_aloadn rfl rfl rfl) ?_
            refine XS.go (s_aloadn rfl rfl rfl) ?_
            refine XS.go (s_getie rfl xf7_162 (show b37 < hz _ by simp only [hz_hsi, hk_hsi, hz_hsj, hk_hsj]; exact qk38.1) (by simp only [hz_hsi, hk_hsi, hz_hsj, hk_hsj]; exact qk38.2) (by decide) rfl (hi_hsi_nk (by decide))) ?_
            refine XS.go (s_puti rfl xf7_69 (show a1 < hz _ by simp only [hz_hsi, hk_hsi, hz_hsj, hk_hsj]; exact qk42.1) (by simp only [hz_hsi, hk_hsi, hz_hsj, hk_hsj]; exact qk42.2) (by decide) rfl (Or.inl rfl)) ?_
            refine XS.go (s_goto (tgt := 115) rfl rfl) ?_
            exact XR.forget (L2 := [some (.ref t), none, none, none]) ⟨rfl, trivial⟩ (kb_p_readStructType_115 (by simp only [LY_si, LY_sj]; exact L35) hf)
          · replace hf := xi_neg hf qc41
            exact XR.forget (L2 := [some (.ref t), none, none, none]) ⟨rfl, trivial⟩ (kb_p_readStructType_87 L35 hf)
  · replace hf := xi_neg hf qc11
    refine XS.go (s_aloadn rfl rfl rfl) ?_
    refine XS.go (s_iconst (v := 0) rfl rfl) ?_
    replace hf := xi_none hf
    obtain ⟨qk43, hf⟩ := hf
    refine XS.go (s_puti rfl xf7_158 qk43.1 qk43.2 (by decide) rfl (Or.inl rfl)) ?_
    refine XS.go (s_aloadn rfl rfl rfl) ?_
    refine XS.go (s_aloadn rfl rfl rfl) ?_
    replace hf := xb_some hf
    obtain ⟨b44, qr45, hf⟩ := hf
    refine XS.go (s_getr rfl xf7_40 (show t < hz _ by simp only [hz_hsi, hk_hsi, hz_hsj, hk_hsj]; exact qk10.1) (by simp only [hz_hsi, hk_hsi, hz_hsj, hk_hsj]; exact qk10.2) (by decide) rfl (by simp only [hr_hsi, hr_hsj]; exact qr45)) ?_
    refine XS.go (s_aloadn rfl rfl rfl) ?_
    refine XS.go (s_getie rfl xf7_26 (show t < hz _ by simp only [hz_hsi, hk_hsi, hz_hsj, hk_hsj]; exact qk10.1) (by simp only [hz_hsi, hk_hsi, hz_hsj, hk_hsj]; exact qk10.2) (by decide) rfl (hi_hsi_nk (by decide))) ?_
    replace hf := xi_none hf
    obtain ⟨qk46, hf⟩ := hf
    subst qk46
    replace hf := xb_some hf
    obtain ⟨r47, e48, hf⟩ := hf
    refine r_callv rfl xvX6_head xm7_109 (kf_x_head (d := d) (by simp only [LY_si, LY_sj]; exact L0) e48) (LY.lt (by simp only [LY_si, LY_sj]; exact L0) (by decide)) (LY.k7 (by simp only [LY_si, LY_sj]; exact L0)) (by decide) rfl rfl (dl0 (by decide)) (by decide) (Nat.le_of_ble_eq_true rfl) ?_
    rintro _ _ ⟨⟨rfl, rfl⟩, L49⟩
    refine XS.go (s_l2i rfl) ?_
    replace hf := xi_none hf
    obtain ⟨qk50, hf⟩ := hf
    refine XS.go (s_puti rfl xf7_69 qk50.1 qk50.2 (by decide) rfl (Or.inl rfl)) ?_
    refine XS.go (s_goto (tgt := 115) rfl rfl) ?_
    exact XR.forget (L2 := [some (.ref t), none, none, none]) ⟨rfl, trivial⟩ (kb_p_readStructType_115 (by simp only [LY_si, LY_sj]; exact L49) hf)
def f_p_readStructField (t : Nat) (a0 : Nat) (a1 : Option Nat) (h : XH) : Option (Int32 × XH) := (Option.elim (a1) (some (0, h)) fun b2 => (if t < hz h ∧ hk h t = 7 then (Option.bind (f_p_expect t 58 h) fun r4 => (if r4.1 = 0 then (some (0, r4.2)) else (if t < hz r4.2 ∧ hk r4.2 t = 7 then (Option.bind (f_p_readStructType t a0 b2 r4.2) fun r9 => (if r9.1 = 0 then (some (0, r9.2)) else (if t < hz r9.2 ∧ hk r9.2 t = 7 then (Option.bind (f_p_expect t 59 r9.2) fun r14 => (if r14.1 = 0 then (some (0, r14.2)) else (some (1, r14.2)))) else none))) else none))) else none))
set_option maxRecDepth 20000 in
theorem kf_p_readStructField {l : Launch} {G : XG} {d : Nat} {t : Nat} {a0 : Nat} {a1 : Option Nat} {h : XH} {r : Int32 × XH} (L0 : LY h) (hf : f_p_readStructField t a0 a1 h = some r) : XC l G xEX7_readStructField (d + 3) [.ref t, .ref a0, va_rf a1] h (fun v h2 => (h2 = r.2 ∧ v = some (.int r.1)) ∧ LY r.2) := by
  refine XC.virt xvX7_readStructField (by cases a1 <;> exact Nat.le_of_ble_eq_true rfl) ?_
  unfold f_p_readStructField at hf
  refine XR.norm (L3 := [some (.ref t), some (.ref a0), some (va_rf a1)]) (by cases a1 <;> rfl) ?_
  refine XS.go (s_aloadnO rfl rfl rfl) ?_
  refine r_ifnull (tgt := 35) rfl rfl (fun qn1 => ?_) (fun b2 qn1 => ?_)
  · replace hf := xo_none hf qn1
    try rw [qn1]
    refine XS.go (s_iconst (v := 0) rfl rfl) ?_
    cases hf
    exact XR.retz rfl rfl (by decide) (fun hret => ⟨_, hret, ⟨rfl, rfl⟩, L0⟩)
  · replace hf := xo_some hf qn1
    try rw [qn1]
    refine XS.go (s_aloadn rfl rfl rfl) ?_
    refine XS.go (s_bipush (v := 58) rfl rfl) ?_
    replace hf := xi_none hf
    obtain ⟨qk3, hf⟩ := hf
    replace hf := xb_some hf
    obtain ⟨r4, e5, hf⟩ := hf
    refine r_callv rfl xvX7_expect xm7_134 (kf_p_expect (d := d) L0 e5) qk3.1 qk3.2 (by decide) rfl rfl (dl (by decide)) (by decide) (Nat.le_of_ble_eq_true rfl) ?_
    rintro _ _ ⟨⟨rfl, rfl⟩, L6⟩
    refine r_if_eq (tgt := 35) rfl rfl (fun qc7 => ?_) (fun qc7 => ?_)
    · replace hf := xi_pos hf qc7
      refine XS.go (s_iconst (v := 0) rfl rfl) ?_
      cases hf
      exact XR.retz rfl rfl (by decide) (fun hret => ⟨_, hret, ⟨rfl, rfl⟩, L6⟩)
    · replace hf := xi_neg hf qc7
      refine XS.go (s_aloadn rfl rfl rfl) ?_
      refine XS.go (s_aloadn rfl rfl rfl) ?_
      refine XS.go (s_aloadn rfl rfl rfl) ?_
      replace hf := xi_none hf
      obtain ⟨qk8, hf⟩ := hf
      replace hf := xb_some hf
      obtain ⟨r9, e10, hf⟩ := hf
      refine r_callv rfl xvX7_readStructType xm7_155 (kf_p_readStructType (d := d) L6 e10) qk8.1 qk8.2 (by decide) rfl rfl (dl (by decide)) (by decide) (Nat.le_of_ble_eq_true rfl) ?_
      rintro _ _ ⟨⟨rfl, rfl⟩, L11⟩
      refine r_if_eq (tgt := 35) rfl rfl (fun qc12 => ?_) (fun qc12 => ?_)
      · replace hf := xi_pos hf qc12
        refine XS.go (s_iconst (v := 0) rfl rfl) ?_
        cases hf
        exact XR.retz rfl rfl (by decide) (fun hret => ⟨_, hret, ⟨rfl, rfl⟩, L11⟩)
      · replace hf := xi_neg hf qc12
        refine XS.go (s_aloadn rfl rfl rfl) ?_
        refine XS.go (s_bipush (v := 59) rfl rfl) ?_
        replace hf := xi_none hf
        obtain ⟨qk13, hf⟩ := hf
        replace hf := xb_some hf
        obtain ⟨r14, e15, hf⟩ := hf
        refine r_callv rfl xvX7_expect xm7_134 (kf_p_expect (d := d) L11 e15) qk13.1 qk13.2 (by decide) rfl rfl (dl (by decide)) (by decide) (Nat.le_of_ble_eq_true rfl) ?_
        rintro _ _ ⟨⟨rfl, rfl⟩, L16⟩
        refine r_if_eq (tgt := 35) rfl rfl (fun qc17 => ?_) (fun qc17 => ?_)
        · replace hf := xi_pos hf qc17
          refine XS.go (s_iconst (v := 0) rfl rfl) ?_
          cases hf
          exact XR.retz rfl rfl (by decide) (fun hret => ⟨_, hret, ⟨rfl, rfl⟩, L16⟩)
        · replace hf := xi_neg hf qc17
          refine XS.go (s_iconst (v := 1) rfl rfl) ?_
          refine XS.go (s_goto (tgt := 36) rfl rfl) ?_
          cases hf
          exact XR.retz rfl rfl (by decide) (fun hret => ⟨_, hret, ⟨rfl, rfl⟩, L16⟩)
def b_p_readStruct_67 (x0 : Nat) (x1 : Option Nat) (h : XH) : Option (Int32 × XH) := (if x0 < hz h ∧ hk h x0 = 7 then (Option.bind (x1) fun b2 => (Option.bind (f_p_layOut x0 b2 h) fun r4 => (if b2 < hz r4.2 ∧ hk r4.2 b2 = 2 then (if (hi r4.2 b2 6) ≤ 128 then (if x0 < hz r4.2 ∧ hk r4.2 x0 = 7 then (Option.bind (f_p_findLeaves x0 b2 r4.2) fun r10 => (if x0 < hz r10.2 ∧ hk r10.2 x0 = 7 then (Option.bind (f_p_expect x0 125 r10.2) fun r14 => (if r14.1 = 0 ∨ r14.1 = 1 then (some (r14.1, r14.2)) else none)) else none)) else none) else (if x0 < hz r4.2 ∧ hk r4.2 x0 = 7 then (Option.bind (f_p_fail x0 8 r4.2) fun r19 => (if r19.1 = 0 ∨ r19.1 = 1 then (some (r19.1, r19.2)) else none)) else none)) else none))) else none)
set_option maxRecDepth 20000 in
theorem kb_p_readStruct_67 {l : Launch} {G : XG} {d : Nat} {x0 : Nat} {x1 : Option Nat} {h : XH} {r : Int32 × XH} (L0 : LY h) (hf : b_p_readStruct_67 x0 x1 h = some r) : XR l G xEX7_readStruct (d + 4) (67, [some (.ref x0), some (va_rf x1), none], [], h) (fun C => ∃ v, xRet xEX7_readStruct C v ∧ (C.2.2.2 = r.2 ∧ v = some (.int r.1)) ∧ LY r.2) := by
  unfold b_p_readStruct_67 at hf
  refine XS.go (s_aloadn rfl rfl rfl) ?_
  refine XS.go (s_aloadnO rfl rfl rfl) ?_
  replace hf := xi_none hf
  obtain ⟨qk1, hf⟩ := hf
  replace hf := xb_some hf
  obtain ⟨b2, qo3, hf⟩ := hf
  try rw [qo3]
  replace hf := xb_some hf
  obtain ⟨r4, e5, hf⟩ := hf
  refine r_callv rfl xvX7_layOut xm7_145 (kf_p_layOut (d := d) L0 e5) qk1.1 qk1.2 (by decide) rfl rfl (dl (by decide)) (by decide) (Nat.le_of_ble_eq_true rfl) ?_
  rintro _ _ ⟨⟨rfl, rfl⟩, L6⟩
  refine XS.go (s_aloadn rfl rfl rfl) ?_
  replace hf := xi_none hf
  obtain ⟨qk7, hf⟩ := hf
  refine XS.go (s_getie rfl xf7_149 qk7.1 qk7.2 (by decide) rfl rfl) ?_
  refine XS.go (s_sipush (v := 128) rfl rfl) ?_
  refine r_icmp_le (tgt := 89) rfl rfl (fun qc8 => ?_) (fun qc8 => ?_)
  · replace hf := xi_pos hf qc8
    refine XS.go (s_aloadn rfl rfl rfl) ?_
    refine XS.go (s_aloadn rfl rfl rfl) ?_
    replace hf := xi_none hf
    obtain ⟨qk9, hf⟩ := hf
    replace hf := xb_some hf
    obtain ⟨r10, e11, hf⟩ := hf
    refine r_callv rfl xvX7_findLeaves xm7_152 (kf_p_findLeaves (d := d) L6 e11) qk9.1 qk9.2 (by decide) rfl rfl (dl (by decide)) (by decide) (Nat.le_of_ble_eq_true rfl) ?_
    rintro _ _ ⟨⟨rfl, rfl⟩, L12⟩
    refine XS.go (s_aloadn rfl rfl rfl) ?_
    refine XS.go (s_bipush (v := 125) rfl rfl) ?_
    replace hf := xi_none hf
    obtain ⟨qk13, hf⟩ := hf
    replace hf := xb_some hf
    obtain ⟨r14, e15, hf⟩ := hf
    refine r_callv rfl xvX7_expect xm7_134 (kf_p_expect (d := d) L12 e15) qk13.1 qk13.2 (by decide) rfl rfl (dl (by decide)) (by decide) (Nat.le_of_ble_eq_true rfl) ?_
    rintro _ _ ⟨⟨rfl, rfl⟩, L16⟩
    replace hf := xi_none hf
    obtain ⟨qk17, hf⟩ := hf
    cases hf
    exact XR.retz rfl rfl qk17 (fun hret => ⟨_, hret, ⟨rfl, rfl⟩, L16⟩)
  · replace hf := xi_neg hf qc8
    refine XS.go (s_aloadn rfl rfl rfl) ?_
    refine XS.go (s_bipush (v := 8) rfl rfl) ?_
    replace hf := xi_none hf
    obtain ⟨qk18, hf⟩ := hf
    replace hf := xb_some hf
    obtain ⟨r19, e20, hf⟩ := hf
    refine r_callv rfl xvX7_fail xm7_78 (kf_p_fail (d := d) L6 e20) qk18.1 qk18.2 (by decide) rfl rfl (dl (by decide)) (by decide) (Nat.le_of_ble_eq_true rfl) ?_
    rintro _ _ ⟨⟨rfl, rfl⟩, L21⟩
    replace hf := xi_none hf
    obtain ⟨qk22, hf⟩ := hf
    cases hf
    exact XR.retz rfl rfl qk22 (fun hret => ⟨_, hret, ⟨rfl, rfl⟩, L21⟩)
def s_p_readStruct_30 (K30 : Nat → Option Nat → Int32 → XH → Option (Int32 × XH)) (x0 : Nat) (x1 : Option Nat) (x2 : Int32) (h : XH) : Option (Int32 × XH) := (if x0 < hz h ∧ hk h x0 = 7 then (if (hi h x0 6) = 125 then (b_p_readStruct_67 x0 x1 h) else (if 4000 < x2 then (b_p_readStruct_67 x0 x1 h) else (Option.bind (x1) fun b26 => (Option.bind (f_p_newField x0 b26 h) fun r28 => (if x0 < hz r28.2 ∧ hk r28.2 x0 = 7 then (Option.bind (f_p_readStructField x0 b26 r28.1 r28.2) fun r32 => (if ¬ r32.1 = 0 then (K30 x0 (some b26) (x2 + 1) r32.2) else (some (0, r32.2)))) else none))))) else none)
set_option maxRecDepth 20000 in
theorem ks_p_readStruct_30 {l : Launch} {G : XG} {d : Nat} {K30 : Nat → Option Nat → Int32 → XH → Option (Int32 × XH)} {x0 : Nat} {x1 : Option Nat} {x2 : Int32} {h : XH} {r : Int32 × XH} (hK30 : ∀ (x0 : Nat) (x1 : Option Nat) (x2 : Int32) (h : XH), LY h → K30 x0 x1 x2 h = some r → XR l G xEX7_readStruct (d + 4) (30, [some (.ref x0), some (va_rf x1), some (.int x2)], [], h) (fun C => ∃ v, xRet xEX7_readStruct C v ∧ (C.2.2.2 = r.2 ∧ v = some (.int r.1)) ∧ LY r.2)) (L0 : LY h) (hf : s_p_readStruct_30 K30 x0 x1 x2 h = some r) : XR l G xEX7_readStruct (d + 4) (30, [some (.ref x0), some (va_rf x1), some (.int x2)], [], h) (fun C => ∃ v, xRet xEX7_readStruct C v ∧ (C.2.2.2 = r.2 ∧ v = some (.int r.1)) ∧ LY r.2) := by
  unfold s_p_readStruct_30 at hf
  refine XS.go (s_aloadn rfl rfl rfl) ?_
  replace hf := xi_none hf
  obtain ⟨qk23, hf⟩ := hf
  refine XS.go (s_getie rfl xf7_31 qk23.1 qk23.2 (by decide) rfl rfl) ?_
  refine XS.go (s_bipush (v := 125) rfl rfl) ?_
  refine r_icmp_eq (tgt := 67) rfl rfl (fun qc24 => ?_) (fun qc24 => ?_)
  · replace hf := xi_pos hf qc24
    exact XR.forget (L2 := [some (.ref x0), some (va_rf x1), none]) ⟨rfl, ⟨rfl, trivial⟩⟩ (kb_p_readStruct_67 L0 hf)
  · replace hf := xi_neg hf qc24
    refine XS.go (s_iloadn rfl rfl rfl) ?_
    refine XS.go (s_sipush (v := 4000) rfl rfl) ?_
    refine r_icmp_gt (tgt := 67) rfl rfl (fun qc25 => ?_) (fun qc25 => ?_)
    · replace hf := xi_pos hf qc25
      exact XR.forget (L2 := [some (.ref x0), some (va_rf x1), none]) ⟨rfl, ⟨rfl, trivial⟩⟩ (kb_p_readStruct_67 L0 hf)
    · replace hf := xi_neg hf qc25
      refine XS.go (s_aloadn rfl rfl rfl) ?_
      refine XS.go (s_aloadnO rfl rfl rfl) ?_
      refine XS.go (s_aloadn rfl rfl rfl) ?_
      refine XS.go (s_aloadnO rfl rfl rfl) ?_
      replace hf := xb_some hf
      obtain ⟨b26, qo27, hf⟩ := hf
      try rw [qo27]
      replace hf := xb_some hf
      obtain ⟨r28, e29, hf⟩ := hf
      refine r_callv rfl xvX7_newField xm7_137 (kf_p_newField (d := d) L0 e29) qk23.1 qk23.2 (by decide) rfl rfl (dl (by decide)) (by decide) (Nat.le_of_ble_eq_true rfl) ?_
      rintro _ _ ⟨⟨rfl, rfl⟩, L30⟩
      replace hf := xi_none hf
      obtain ⟨qk31, hf⟩ := hf
      replace hf := xb_some hf
      obtain ⟨r32, e33, hf⟩ := hf
      refine r_callv rfl xvX7_readStructField xm7_141 (kf_p_readStructField (d := d) L30 e33) qk31.1 qk31.2 (by decide) rfl rfl (dl (by decide)) (by decide) (Nat.le_of_ble_eq_true rfl) ?_
      rintro _ _ ⟨⟨rfl, rfl⟩, L34⟩
      refine r_if_ne (tgt := 61) rfl rfl (fun qc35 => ?_) (fun qc35 => ?_)
      · replace hf := xi_pos hf qc35
        refine XS.go (XS.lcl (L3 := [some (.ref x0), some (.ref b26), some (.int (x2 + 1))]) (s_inc rfl rfl (Nat.le_of_ble_eq_true rfl)) rfl) ?_
        refine XS.go (s_goto (tgt := 30) rfl rfl) ?_
        exact XR.forget (L2 := [some (.ref x0), some (.ref b26), some (.int (x2 + 1))]) ⟨rfl, ⟨rfl, ⟨rfl, trivial⟩⟩⟩ (hK30 x0 (some b26) (x2 + 1) _ L34 hf)
      · replace hf := xi_neg hf qc35
        refine XS.go (s_iconst (v := 0) rfl rfl) ?_
        cases hf
        exact XR.retz rfl rfl (by decide) (fun hret => ⟨_, hret, ⟨rfl, rfl⟩, L34⟩)
def b_p_readStruct_30 : Nat → Nat → Option Nat → Int32 → XH → Option (Int32 × XH)
  | 0, _, _, _, _ => none
  | n + 1, x0, x1, x2, h => s_p_readStruct_30 (b_p_readStruct_30 n) x0 x1 x2 h
theorem kb_p_readStruct_30 {l : Launch} {G : XG} {d : Nat} {n : Nat} {x0 : Nat} {x1 : Option Nat} {x2 : Int32} {h : XH} {r : Int32 × XH} (L0 : LY h) (hf : b_p_readStruct_30 n x0 x1 x2 h = some r) : XR l G xEX7_readStruct (d + 4) (30, [some (.ref x0), some (va_rf x1), some (.int x2)], [], h) (fun C => ∃ v, xRet xEX7_readStruct C v ∧ (C.2.2.2 = r.2 ∧ v = some (.int r.1)) ∧ LY r.2) := by
  induction n generalizing x0 x1 x2 h with
  | zero => cases hf
  | succ n ih => exact ks_p_readStruct_30 (fun x0 x1 x2 h L0 hf => ih (h := h) (x0 := x0) (x1 := x1) (x2 := x2) L0 hf) L0 hf
def f_p_readStruct (t : Nat) (a0 : Option Nat) (h : XH) : Option (Int32 × XH) := (Option.elim (a0) (some (0, h)) fun b37 => (if t < hz h ∧ hk h t = 7 then (Option.bind (f_p_expect t 123 h) fun r39 => (if r39.1 = 0 then (some (0, r39.2)) else (if t < hz r39.2 ∧ hk r39.2 t = 7 then (Option.bind (f_p_newField t b37 r39.2) fun r44 => (if t < hz r44.2 ∧ hk r44.2 t = 7 then (Option.bind (f_p_readStructField t b37 r44.1 r44.2) fun r48 => (if ¬ r48.1 = 0 then (b_p_readStruct_30 100000 t (some b37) 0 r48.2) else (some (0, r48.2)))) else none)) else none))) else none))
set_option maxRecDepth 20000 in
theorem kf_p_readStruct {l : Launch} {G : XG} {d : Nat} {t : Nat} {a0 : Option Nat} {h : XH} {r : Int32 × XH} (L0 : LY h) (hf : f_p_readStruct t a0 h = some r) : XC l G xEX7_readStruct (d + 4) [.ref t, va_rf a0] h (fun v h2 => (h2 = r.2 ∧ v = some (.int r.1)) ∧ LY r.2) := by
  refine XC.virt xvX7_readStruct (by cases a0 <;> exact Nat.le_of_ble_eq_true rfl) ?_
  unfold f_p_readStruct at hf
  refine XR.norm (L3 := [some (.ref t), some (va_rf a0), none]) (by cases a0 <;> rfl) ?_
  refine XS.go (s_aloadnO rfl rfl rfl) ?_
  refine r_ifnull (tgt := 26) rfl rfl (fun qn36 => ?_) (fun b37 qn36 => ?_)
  · replace hf := xo_none hf qn36
    try rw [qn36]
    refine XS.go (s_iconst (v := 0) rfl rfl) ?_
    cases hf
    exact XR.retz rfl rfl (by decide) (fun hret => ⟨_, hret, ⟨rfl, rfl⟩, L0⟩)
  · replace hf := xo_some hf qn36
    try rw [qn36]
    refine XS.go (s_aloadn rfl rfl rfl) ?_
    refine XS.go (s_bipush (v := 123) rfl rfl) ?_
    replace hf := xi_none hf
    obtain ⟨qk38, hf⟩ := hf
    replace hf := xb_some hf
    obtain ⟨r39, e40, hf⟩ := hf
    refine r_callv rfl xvX7_expect xm7_134 (kf_p_expect (d := d) L0 e40) qk38.1 qk38.2 (by decide) rfl rfl (dl (by decide)) (by decide) (Nat.le_of_ble_eq_true rfl) ?_
    rintro _ _ ⟨⟨rfl, rfl⟩, L41⟩
    refine r_if_eq (tgt := 26) rfl rfl (fun qc42 => ?_) (fun qc42 => ?_)
    · replace hf := xi_pos hf qc42
      refine XS.go (s_iconst (v := 0) rfl rfl) ?_
      cases hf
      exact XR.retz rfl rfl (by decide) (fun hret => ⟨_, hret, ⟨rfl, rfl⟩, L41⟩)
    · replace hf := xi_neg hf qc42
      refine XS.go (s_aloadn rfl rfl rfl) ?_
      refine XS.go (s_aloadn rfl rfl rfl) ?_
      refine XS.go (s_aloadn rfl rfl rfl) ?_
      refine XS.go (s_aloadn rfl rfl rfl) ?_
      replace hf := xi_none hf
      obtain ⟨qk43, hf⟩ := hf
      replace hf := xb_some hf
      obtain ⟨r44, e45, hf⟩ := hf
      refine r_callv rfl xvX7_newField xm7_137 (kf_p_newField (d := d) L41 e45) qk43.1 qk43.2 (by decide) rfl rfl (dl (by decide)) (by decide) (Nat.le_of_ble_eq_true rfl) ?_
      rintro _ _ ⟨⟨rfl, rfl⟩, L46⟩
      replace hf := xi_none hf
      obtain ⟨qk47, hf⟩ := hf
      replace hf := xb_some hf
      obtain ⟨r48, e49, hf⟩ := hf
      refine r_callv rfl xvX7_readStructField xm7_141 (kf_p_readStructField (d := d) L46 e49) qk47.1 qk47.2 (by decide) rfl rfl (dl (by decide)) (by decide) (Nat.le_of_ble_eq_true rfl) ?_
      rintro _ _ ⟨⟨rfl, rfl⟩, L50⟩
      refine r_if_ne (tgt := 28) rfl rfl (fun qc51 => ?_) (fun qc51 => ?_)
      · replace hf := xi_pos hf qc51
        refine XS.go (s_iconst (v := 0) rfl rfl) ?_
        refine XS.go (XS.lcl (L3 := [some (.ref t), some (.ref b37), some (.int 0)]) (s_istoren rfl rfl (Nat.le_of_ble_eq_true rfl)) rfl) ?_
        exact XR.forget (L2 := [some (.ref t), some (.ref b37), some (.int 0)]) ⟨rfl, ⟨rfl, ⟨rfl, trivial⟩⟩⟩ (kb_p_readStruct_30 L50 hf)
      · replace hf := xi_neg hf qc51
        refine XS.go (s_iconst (v := 0) rfl rfl) ?_
        cases hf
        exact XR.retz rfl rfl (by decide) (fun hret => ⟨_, hret, ⟨rfl, rfl⟩, L50⟩)
def f_t_isValue (a0 : Int32) (a1 : Int64) (h : XH) : Option (Int32 × XH) := (Option.bind (f_t_isScalar a0 h) fun r1 => (if r1.1 = 0 then (some (0, r1.2)) else (if 0 ≤ a0 ∧ a0 < nI 11 then (if 0 < (lg_cmp (xLO (Int32.toNatClampNeg a0)) a1) then (some (0, r1.2)) else (if 0 < (lg_cmp a1 (xHI (Int32.toNatClampNeg a0))) then (some (0, r1.2)) else (some (1, r1.2)))) else none)))
set_option maxRecDepth 20000 in
theorem kf_t_isValue {l : Launch} {G : XG} {d : Nat} {a0 : Int32} {a1 : Int64} {h : XH} {r : Int32 × XH} (L0 : LY h) (hf : f_t_isValue a0 a1 h = some r) : XC l G xEX11_isValue (d + 1) [.int a0, .long a1] h (fun v h2 => (h2 = r.2 ∧ v = some (.int r.1)) ∧ LY r.2) := by
  refine XC.stat xsX11_isValue (Nat.le_of_ble_eq_true rfl) ?_
  unfold f_t_isValue at hf
  refine XR.norm (L3 := [some (.int a0), some (.long a1), none]) rfl ?_
  refine XS.go (s_iloadn rfl rfl rfl) ?_
  replace hf := xb_some hf
  obtain ⟨r1, e2, hf⟩ := hf
  refine r_calls rfl xsX11_isScalar xm11_249 (kf_t_isScalar (d := d) L0 e2) rfl rfl (dl0 (by decide)) (by decide) (Nat.le_of_ble_eq_true rfl) ?_
  rintro _ _ ⟨⟨rfl, rfl⟩, L3⟩
  refine r_if_eq (tgt := 31) rfl rfl (fun qc4 => ?_) (fun qc4 => ?_)
  · replace hf := xi_pos hf qc4
    refine XS.go (s_iconst (v := 0) rfl rfl) ?_
    cases hf
    exact XR.retz rfl rfl (by decide) (fun hret => ⟨_, hret, ⟨rfl, rfl⟩, L3⟩)
  · replace hf := xi_neg hf qc4
    refine XS.go (s_gets2 rfl (lg_3 164 rfl rfl)) ?_
    refine XS.go (s_iloadn rfl rfl rfl) ?_
    replace hf := xi_none hf
    obtain ⟨qk5, hf⟩ := hf
    refine XS.go (s_ald2 rfl (inLit (rfl : (11 : Nat) = 11) qk5.1 qk5.2 (by decide))) ?_
    refine XS.go (s_lloadn rfl rfl rfl) ?_
    refine XS.go (s_lcmp rfl) ?_
    refine r_if_gt (tgt := 31) rfl rfl (fun qc6 => ?_) (fun qc6 => ?_)
    · replace hf := xi_pos hf qc6
      refine XS.go (s_iconst (v := 0) rfl rfl) ?_
      cases hf
      exact XR.retz rfl rfl (by decide) (fun hret => ⟨_, hret, ⟨rfl, rfl⟩, L3⟩)
    · replace hf := xi_neg hf qc6
      refine XS.go (s_lloadn rfl rfl rfl) ?_
      refine XS.go (s_gets3 rfl (lg_3 166 rfl rfl)) ?_
      refine XS.go (s_iloadn rfl rfl rfl) ?_
      refine XS.go (s_ald3 rfl (inLit (rfl : (11 : Nat) = 11) qk5.1 qk5.2 (by decide))) ?_
      refine XS.go (s_lcmp rfl) ?_
      refine r_if_gt (tgt := 31) rfl rfl (fun qc7 => ?_) (fun qc7 => ?_)
      · replace hf := xi_pos hf qc7
        refine XS.go (s_iconst (v := 0) rfl rfl) ?_
        cases hf
        exact XR.retz rfl rfl (by decide) (fun hret => ⟨_, hret, ⟨rfl, rfl⟩, L3⟩)
      · replace hf := xi_neg hf qc7
        refine XS.go (s_iconst (v := 1) rfl rfl) ?_
        refine XS.go (s_goto (tgt := 32) rfl rfl) ?_
        cases hf
        exact XR.retz rfl rfl (by decide) (fun hret => ⟨_, hret, ⟨rfl, rfl⟩, L3⟩)
def b_p_readDefault_106 (x0 : Nat) (x1 : Nat) (x2 : Int64) (h : XH) : Option (Int32 × XH) := (if x1 < hz h ∧ hk h x1 = 3 then (if x0 < hz h ∧ hk h x0 = 7 then (Option.bind (f_p_advance x0 (hsj h x1 8 x2)) fun r3 => (some (1, r3.2))) else none) else none)
set_option maxRecDepth 20000 in
theorem kb_p_readDefault_106 {l : Launch} {G : XG} {d : Nat} {x0 : Nat} {x1 : Nat} {x2 : Int64} {h : XH} {r : Int32 × XH} (L0 : LY h) (hf : b_p_readDefault_106 x0 x1 x2 h = some r) : XR l G xEX7_readDefault (d + 2) (106, [some (.ref x0), some (.ref x1), some (.long x2), none], [], h) (fun C => ∃ v, xRet xEX7_readDefault C v ∧ (C.2.2.2 = r.2 ∧ v = some (.int r.1)) ∧ LY r.2) := by
  unfold b_p_readDefault_106 at hf
  refine XS.go (s_aloadn rfl rfl rfl) ?_
  refine XS.go (s_lloadn rfl rfl rfl) ?_
  replace hf := xi_none hf
  obtain ⟨qk1, hf⟩ := hf
  refine XS.go (s_putj rfl xf7_233 qk1.1 qk1.2 (by decide) rfl (Or.inl rfl)) ?_
  refine XS.go (s_aloadn rfl rfl rfl) ?_
  replace hf := xi_none hf
  obtain ⟨qk2, hf⟩ := hf
  replace hf := xb_some hf
  obtain ⟨r3, e4, hf⟩ := hf
  refine r_callv rfl xvX7_advance xm7_82 (kf_p_advance (d := d) (by simp only [LY_si, LY_sj]; exact L0) e4) (show x0 < hz _ by simp only [hz_hsi, hk_hsi, hz_hsj, hk_hsj]; exact qk2.1) (by simp only [hz_hsi, hk_hsi, hz_hsj, hk_hsj]; exact qk2.2) (by decide) rfl rfl (dl (by decide)) (by decide) (Nat.le_of_ble_eq_true rfl) ?_
  rintro _ _ ⟨⟨rfl, rfl⟩, L5⟩
  refine XS.go (s_iconst (v := 1) rfl rfl) ?_
  cases hf
  exact XR.retz rfl rfl (by decide) (fun hret => ⟨_, hret, ⟨rfl, rfl⟩, L5⟩)
def b_p_readDefault_99 (x0 : Nat) (h : XH) : Option (Int32 × XH) := (if x0 < hz h ∧ hk h x0 = 7 then (Option.bind (f_p_fail x0 6 h) fun r7 => (if r7.1 = 0 ∨ r7.1 = 1 then (some (r7.1, r7.2)) else none)) else none)
set_option maxRecDepth 20000 in
theorem kb_p_readDefault_99 {l : Launch} {G : XG} {d : Nat} {x0 : Nat} {h : XH} {r : Int32 × XH} (L0 : LY h) (hf : b_p_readDefault_99 x0 h = some r) : XR l G xEX7_readDefault (d + 2) (99, [some (.ref x0), none, none, none], [], h) (fun C => ∃ v, xRet xEX7_readDefault C v ∧ (C.2.2.2 = r.2 ∧ v = some (.int r.1)) ∧ LY r.2) := by
  unfold b_p_readDefault_99 at hf
  refine XS.go (s_aloadn rfl rfl rfl) ?_
  refine XS.go (s_bipush (v := 6) rfl rfl) ?_
  replace hf := xi_none hf
  obtain ⟨qk6, hf⟩ := hf
  replace hf := xb_some hf
  obtain ⟨r7, e8, hf⟩ := hf
  refine r_callv rfl xvX7_fail xm7_78 (kf_p_fail (d := d) L0 e8) qk6.1 qk6.2 (by decide) rfl rfl (dl (by decide)) (by decide) (Nat.le_of_ble_eq_true rfl) ?_
  rintro _ _ ⟨⟨rfl, rfl⟩, L9⟩
  replace hf := xi_none hf
  obtain ⟨qk10, hf⟩ := hf
  cases hf
  exact XR.retz rfl rfl qk10 (fun hret => ⟨_, hret, ⟨rfl, rfl⟩, L9⟩)
def b_p_readDefault_36 (x0 : Nat) (h : XH) : Option (Int32 × XH) := (if x0 < hz h ∧ hk h x0 = 7 then (Option.bind (f_p_fail x0 7 h) fun r12 => (if r12.1 = 0 ∨ r12.1 = 1 then (some (r12.1, r12.2)) else none)) else none)
set_option maxRecDepth 20000 in
theorem kb_p_readDefault_36 {l : Launch} {G : XG} {d : Nat} {x0 : Nat} {h : XH} {r : Int32 × XH} (L0 : LY h) (hf : b_p_readDefault_36 x0 h = some r) : XR l G xEX7_readDefault (d + 2) (36, [some (.ref x0), none, none, none], [], h) (fun C => ∃ v, xRet xEX7_readDefault C v ∧ (C.2.2.2 = r.2 ∧ v = some (.int r.1)) ∧ LY r.2) := by
  unfold b_p_readDefault_36 at hf
  refine XS.go (s_aloadn rfl rfl rfl) ?_
  refine XS.go (s_bipush (v := 7) rfl rfl) ?_
  replace hf := xi_none hf
  obtain ⟨qk11, hf⟩ := hf
  replace hf := xb_some hf
  obtain ⟨r12, e13, hf⟩ := hf
  refine r_callv rfl xvX7_fail xm7_78 (kf_p_fail (d := d) L0 e13) qk11.1 qk11.2 (by decide) rfl rfl (dl (by decide)) (by decide) (Nat.le_of_ble_eq_true rfl) ?_
  rintro _ _ ⟨⟨rfl, rfl⟩, L14⟩
  replace hf := xi_none hf
  obtain ⟨qk15, hf⟩ := hf
  cases hf
  exact XR.retz rfl rfl qk15 (fun hret => ⟨_, hret, ⟨rfl, rfl⟩, L14⟩)
def f_p_readDefault (t : Nat) (a0 : Nat) (h : XH) : Option (Int32 × XH) := (if t < hz h ∧ hk h t = 7 then (if (hi h t 6) = 61 then (if a0 < hz h ∧ hk h a0 = 3 then (if ¬ (hi h a0 3) = 0 then (b_p_readDefault_36 t h) else (if (hi h a0 4) = 9 then (b_p_readDefault_36 t h) else (if ¬ (hi h a0 4) = 10 then (Option.bind (f_p_advance t h) fun r22 => (if t < hz r22.2 ∧ hk r22.2 t = 7 then (if (hi r22.2 t 6) = 3 then (Option.bind (hr r22.2 t 0) fun b27 => (if b27 = 7 then (Option.bind (f_x_head (hi r22.2 t 5) r22.2) fun r30 => (if a0 < hz r30.2 ∧ hk r30.2 a0 = 3 then (Option.bind (f_t_isValue (hi r30.2 a0 4) r30.1 r30.2) fun r34 => (if r34.1 = 0 then (b_p_readDefault_99 t r34.2) else (if a0 < hz r34.2 ∧ hk r34.2 a0 = 3 then (if ¬ (hi r34.2 a0 4) = 8 then (b_p_readDefault_106 t a0 r30.1 r34.2) else (if 0 ≤ (lg_cmp r30.1 (0 : Int64)) then (b_p_readDefault_106 t a0 r30.1 r34.2) else (b_p_readDefault_99 t r34.2))) else none))) else none)) else none)) else (Option.bind (f_p_fail t 2 r22.2) fun r41 => (if r41.1 = 0 ∨ r41.1 = 1 then (some (r41.1, r41.2)) else none))) else none)) else (b_p_readDefault_36 t h)))) else none) else (some (1, h))) else none)
set_option maxRecDepth 20000 in
theorem kf_p_readDefault {l : Launch} {G : XG} {d : Nat} {t : Nat} {a0 : Nat} {h : XH} {r : Int32 × XH} (L0 : LY h) (hf : f_p_readDefault t a0 h = some r) : XC l G xEX7_readDefault (d + 2) [.ref t, .ref a0] h (fun v h2 => (h2 = r.2 ∧ v = some (.int r.1)) ∧ LY r.2) := by
  refine XC.virt xvX7_readDefault (Nat.le_of_ble_eq_true rfl) ?_
  unfold f_p_readDefault at hf
  refine XR.norm (L3 := [some (.ref t), some (.ref a0), none, none]) rfl ?_
  refine XS.go (s_aloadn rfl rfl rfl) ?_
  replace hf := xi_none hf
  obtain ⟨qk16, hf⟩ := hf
  refine XS.go (s_getie rfl xf7_31 qk16.1 qk16.2 (by decide) rfl rfl) ?_
  refine XS.go (s_bipush (v := 61) rfl rfl) ?_
  refine r_icmp_eq (tgt := 11) rfl rfl (fun qc17 => ?_) (fun qc17 => ?_)
  · replace hf := xi_pos hf qc17
    refine XS.go (s_aloadn rfl rfl rfl) ?_
    replace hf := xi_none hf
    obtain ⟨qk18, hf⟩ := hf
    refine XS.go (s_getie rfl xf7_158 qk18.1 qk18.2 (by decide) rfl rfl) ?_
    refine r_if_ne (tgt := 36) rfl rfl (fun qc19 => ?_) (fun qc19 => ?_)
    · replace hf := xi_pos hf qc19
      exact XR.forget (L2 := [some (.ref t), none, none, none]) ⟨rfl, trivial⟩ (kb_p_readDefault_36 L0 hf)
    · replace hf := xi_neg hf qc19
      refine XS.go (s_aloadn rfl rfl rfl) ?_
      refine XS.go (s_getie rfl xf7_69 qk18.1 qk18.2 (by decide) rfl rfl) ?_
      refine XS.go (s_bipush (v := 9) rfl rfl) ?_
      refine r_icmp_eq (tgt := 36) rfl rfl (fun qc20 => ?_) (fun qc20 => ?_)
      · replace hf := xi_pos hf qc20
        exact XR.forget (L2 := [some (.ref t), none, none, none]) ⟨rfl, trivial⟩ (kb_p_readDefault_36 L0 hf)
      · replace hf := xi_neg hf qc20
        refine XS.go (s_aloadn rfl rfl rfl) ?_
        refine XS.go (s_getie rfl xf7_69 qk18.1 qk18.2 (by decide) rfl rfl) ?_
        refine XS.go (s_bipush (v := 10) rfl rfl) ?_
        refine r_icmp_ne (tgt := 43) rfl rfl (fun qc21 => ?_) (fun qc21 => ?_)
        · replace hf := xi_pos hf qc21
          refine XS.go (s_aloadn rfl rfl rfl) ?_
          replace hf := xb_some hf
          obtain ⟨r22, e23, hf⟩ := hf
          refine r_callv rfl xvX7_advance xm7_82 (kf_p_advance (d := d) L0 e23) qk16.1 qk16.2 (by decide) rfl rfl (dl (by decide)) (by decide) (Nat.le_of_ble_eq_true rfl) ?_
          rintro _ _ ⟨⟨rfl, rfl⟩, L24⟩
          refine XS.go (s_aloadn rfl rfl rfl) ?_
          replace hf := xi_none hf
          obtain ⟨qk25, hf⟩ := hf
          refine XS.go (s_getie rfl xf7_31 qk25.1 qk25.2 (by decide) rfl rfl) ?_
          refine XS.go (s_iconst (v := 3) rfl rfl) ?_
          refine r_icmp_eq (tgt := 61) rfl rfl (fun qc26 => ?_) (fun qc26 => ?_)
          · replace hf := xi_pos hf qc26
            refine XS.go (s_aloadn rfl rfl rfl) ?_
            replace hf := xb_some hf
            obtain ⟨b27, qr28, hf⟩ := hf
            refine XS.go (s_getr rfl xf7_40 qk25.1 qk25.2 (by decide) rfl qr28) ?_
            refine XS.go (s_aloadn rfl rfl rfl) ?_
            refine XS.go (s_getie rfl xf7_26 qk25.1 qk25.2 (by decide) rfl rfl) ?_
            replace hf := xi_none hf
            obtain ⟨qk29, hf⟩ := hf
            subst qk29
            replace hf := xb_some hf
            obtain ⟨r30, e31, hf⟩ := hf
            refine r_callv rfl xvX6_head xm7_109 (kf_x_head (d := d) L24 e31) (LY.lt L24 (by decide)) (LY.k7 L24) (by decide) rfl rfl (dl0 (by decide)) (by decide) (Nat.le_of_ble_eq_true rfl) ?_
            rintro _ _ ⟨⟨rfl, rfl⟩, L32⟩
            refine XS.go (XS.lcl (L3 := [some (.ref t), some (.ref a0), some (.long r30.1), none]) (s_lstoren rfl rfl (Nat.le_of_ble_eq_true rfl)) rfl) ?_
            refine XS.go (s_aloadn rfl rfl rfl) ?_
            replace hf := xi_none hf
            obtain ⟨qk33, hf⟩ := hf
            refine XS.go (s_getie rfl xf7_69 qk33.1 qk33.2 (by decide) rfl rfl) ?_
            refine XS.go (s_lloadn rfl rfl rfl) ?_
            replace hf := xb_some hf
            obtain ⟨r34, e35, hf⟩ := hf
            refine r_callsn rfl xsX11_isValue (List.mem_of_getElem? (i := 14) rfl) (kf_t_isValue (d := d) L32 e35) rfl rfl (dl (by decide)) (by decide) (Nat.le_of_ble_eq_true rfl) ?_
            rintro _ _ ⟨⟨rfl, rfl⟩, L36⟩
            refine r_if_eq (tgt := 99) rfl rfl (fun qc37 => ?_) (fun qc37 => ?_)
            · replace hf := xi_pos hf qc37
              exact XR.forget (L2 := [some (.ref t), none, none, none]) ⟨rfl, trivial⟩ (kb_p_readDefault_99 L36 hf)
            · replace hf := xi_neg hf qc37
              refine XS.go (s_aloadn rfl rfl rfl) ?_
              replace hf := xi_none hf
              obtain ⟨qk38, hf⟩ := hf
              refine XS.go (s_getie rfl xf7_69 qk38.1 qk38.2 (by decide) rfl rfl) ?_
              refine XS.go (s_bipush (v := 8) rfl rfl) ?_
              refine r_icmp_ne (tgt := 106) rfl rfl (fun qc39 => ?_) (fun qc39 => ?_)
              · replace hf := xi_pos hf qc39
                exact XR.forget (L2 := [some (.ref t), some (.ref a0), some (.long r30.1), none]) ⟨rfl, ⟨rfl, ⟨rfl, trivial⟩⟩⟩ (kb_p_readDefault_106 L36 hf)
              · replace hf := xi_neg hf qc39
                refine XS.go (s_lloadn rfl rfl rfl) ?_
                refine XS.go (s_lconst (v := 0) rfl rfl) ?_
                refine XS.go (s_lcmp rfl) ?_
                refine r_if_ge (tgt := 106) rfl rfl (fun qc40 => ?_) (fun qc40 => ?_)
                · replace hf := xi_pos hf qc40
                  exact XR.forget (L2 := [some (.ref t), some (.ref a0), some (.long r30.1), none]) ⟨rfl, ⟨rfl, ⟨rfl, trivial⟩⟩⟩ (kb_p_readDefault_106 L36 hf)
                · replace hf := xi_neg hf qc40
                  exact XR.forget (L2 := [some (.ref t), none, none, none]) ⟨rfl, trivial⟩ (kb_p_readDefault_99 L36 hf)
          · replace hf := xi_neg hf qc26
            refine XS.go (s_aloadn rfl rfl rfl) ?_
            refine XS.go (s_iconst (v := 2) rfl rfl) ?_
            replace hf := xb_some hf
            obtain ⟨r41, e42, hf⟩ := hf
            refine r_callv rfl xvX7_fail xm7_78 (kf_p_fail (d := d) L24 e42) qk25.1 qk25.2 (by decide) rfl rfl (dl (by decide)) (by decide) (Nat.le_of_ble_eq_true rfl) ?_
            rintro _ _ ⟨⟨rfl, rfl⟩, L43⟩
            replace hf := xi_none hf
            obtain ⟨qk44, hf⟩ := hf
            cases hf
            exact XR.retz rfl rfl qk44 (fun hret => ⟨_, hret, ⟨rfl, rfl⟩, L43⟩)
        · replace hf := xi_neg hf qc21
          exact XR.forget (L2 := [some (.ref t), none, none, none]) ⟨rfl, trivial⟩ (kb_p_readDefault_36 L0 hf)
  · replace hf := xi_neg hf qc17
    refine XS.go (s_iconst (v := 1) rfl rfl) ?_
    cases hf
    exact XR.retz rfl rfl (by decide) (fun hret => ⟨_, hret, ⟨rfl, rfl⟩, L0⟩)
def f_p_readRequired (t : Nat) (a0 : Nat) (h : XH) : Option (Int32 × XH) := (if t < hz h ∧ hk h t = 7 then (if (hi h t 6) = 40 then (if a0 < hz h ∧ hk h a0 = 3 then (if ¬ (hi h a0 3) = 0 then (Option.bind (f_p_advance t h) fun r5 => (if a0 < hz r5.2 ∧ hk r5.2 a0 = 3 then (if t < hz r5.2 ∧ hk r5.2 t = 7 then (Option.bind (f_p_expect t 10 (hsi r5.2 a0 7 1)) fun r10 => (if r10.1 = 0 then (some (0, r10.2)) else (if t < hz r10.2 ∧ hk r10.2 t = 7 then (Option.bind (f_p_expect t 41 r10.2) fun r15 => (if r15.1 = 0 then (some (0, r15.2)) else (some (1, r15.2)))) else none))) else none) else none)) else (Option.bind (f_p_fail t 7 h) fun r19 => (if r19.1 = 0 ∨ r19.1 = 1 then (some (r19.1, r19.2)) else none))) else none) else (some (1, h))) else none)
set_option maxRecDepth 20000 in
theorem kf_p_readRequired {l : Launch} {G : XG} {d : Nat} {t : Nat} {a0 : Nat} {h : XH} {r : Int32 × XH} (L0 : LY h) (hf : f_p_readRequired t a0 h = some r) : XC l G xEX7_readRequired (d + 3) [.ref t, .ref a0] h (fun v h2 => (h2 = r.2 ∧ v = some (.int r.1)) ∧ LY r.2) := by
  refine XC.virt xvX7_readRequired (Nat.le_of_ble_eq_true rfl) ?_
  unfold f_p_readRequired at hf
  refine XR.norm (L3 := [some (.ref t), some (.ref a0)]) rfl ?_
  refine XS.go (s_aloadn rfl rfl rfl) ?_
  replace hf := xi_none hf
  obtain ⟨qk1, hf⟩ := hf
  refine XS.go (s_getie rfl xf7_31 qk1.1 qk1.2 (by decide) rfl rfl) ?_
  refine XS.go (s_bipush (v := 40) rfl rfl) ?_
  refine r_icmp_eq (tgt := 11) rfl rfl (fun qc2 => ?_) (fun qc2 => ?_)
  · replace hf := xi_pos hf qc2
    refine XS.go (s_aloadn rfl rfl rfl) ?_
    replace hf := xi_none hf
    obtain ⟨qk3, hf⟩ := hf
    refine XS.go (s_getie rfl xf7_158 qk3.1 qk3.2 (by decide) rfl rfl) ?_
    refine r_if_ne (tgt := 25) rfl rfl (fun qc4 => ?_) (fun qc4 => ?_)
    · replace hf := xi_pos hf qc4
      refine XS.go (s_aloadn rfl rfl rfl) ?_
      replace hf := xb_some hf
      obtain ⟨r5, e6, hf⟩ := hf
      refine r_callv rfl xvX7_advance xm7_82 (kf_p_advance (d := d) L0 e6) qk1.1 qk1.2 (by decide) rfl rfl (dl (by decide)) (by decide) (Nat.le_of_ble_eq_true rfl) ?_
      rintro _ _ ⟨⟨rfl, rfl⟩, L7⟩
      refine XS.go (s_aloadn rfl rfl rfl) ?_
      refine XS.go (s_iconst (v := 1) rfl rfl) ?_
      replace hf := xi_none hf
      obtain ⟨qk8, hf⟩ := hf
      refine XS.go (s_putz rfl xf7_237 qk8.1 qk8.2 (by decide) rfl (Or.inl rfl) (by decide)) ?_
      refine XS.go (s_aloadn rfl rfl rfl) ?_
      refine XS.go (s_bipush (v := 10) rfl rfl) ?_
      replace hf := xi_none hf
      obtain ⟨qk9, hf⟩ := hf
      replace hf := xb_some hf
      obtain ⟨r10, e11, hf⟩ := hf
      refine r_callv rfl xvX7_expect xm7_134 (kf_p_expect (d := d) (by simp only [LY_si, LY_sj]; exact L7) e11) (show t < hz _ by simp only [hz_hsi, hk_hsi, hz_hsj, hk_hsj]; exact qk9.1) (by simp only [hz_hsi, hk_hsi, hz_hsj, hk_hsj]; exact qk9.2) (by decide) rfl rfl (dl (by decide)) (by decide) (Nat.le_of_ble_eq_true rfl) ?_
      rintro _ _ ⟨⟨rfl, rfl⟩, L12⟩
      refine r_if_eq (tgt := 56) rfl rfl (fun qc13 => ?_) (fun qc13 => ?_)
      · replace hf := xi_pos hf qc13
        refine XS.go (s_iconst (v := 0) rfl rfl) ?_
        cases hf
        exact XR.retz rfl rfl (by decide) (fun hret => ⟨_, hret, ⟨rfl, rfl⟩, L12⟩)
      · replace hf := xi_neg hf qc13
        refine XS.go (s_aloadn rfl rfl rfl) ?_
        refine XS.go (s_bipush (v := 41) rfl rfl) ?_
        replace hf := xi_none hf
        obtain ⟨qk14, hf⟩ := hf
        replace hf := xb_some hf
        obtain ⟨r15, e16, hf⟩ := hf
        refine r_callv rfl xvX7_expect xm7_134 (kf_p_expect (d := d) L12 e16) qk14.1 qk14.2 (by decide) rfl rfl (dl (by decide)) (by decide) (Nat.le_of_ble_eq_true rfl) ?_
        rintro _ _ ⟨⟨rfl, rfl⟩, L17⟩
        refine r_if_eq (tgt := 56) rfl rfl (fun qc18 => ?_) (fun qc18 => ?_)
        · replace hf := xi_pos hf qc18
          refine XS.go (s_iconst (v := 0) rfl rfl) ?_
          cases hf
          exact XR.retz rfl rfl (by decide) (fun hret => ⟨_, hret, ⟨rfl, rfl⟩, L17⟩)
        · replace hf := xi_neg hf qc18
          refine XS.go (s_iconst (v := 1) rfl rfl) ?_
          refine XS.go (s_goto (tgt := 57) rfl rfl) ?_
          cases hf
          exact XR.retz rfl rfl (by decide) (fun hret => ⟨_, hret, ⟨rfl, rfl⟩, L17⟩)
    · replace hf := xi_neg hf qc4
      refine XS.go (s_aloadn rfl rfl rfl) ?_
      refine XS.go (s_bipush (v := 7) rfl rfl) ?_
      replace hf := xb_some hf
      obtain ⟨r19, e20, hf⟩ := hf
      refine r_callv rfl xvX7_fail xm7_78 (kf_p_fail (d := d) L0 e20) qk1.1 qk1.2 (by decide) rfl rfl (dl (by decide)) (by decide) (Nat.le_of_ble_eq_true rfl) ?_
      rintro _ _ ⟨⟨rfl, rfl⟩, L21⟩
      replace hf := xi_none hf
      obtain ⟨qk22, hf⟩ := hf
      cases hf
      exact XR.retz rfl rfl qk22 (fun hret => ⟨_, hret, ⟨rfl, rfl⟩, L21⟩)
  · replace hf := xi_neg hf qc2
    refine XS.go (s_iconst (v := 1) rfl rfl) ?_
    cases hf
    exact XR.retz rfl rfl (by decide) (fun hret => ⟨_, hret, ⟨rfl, rfl⟩, L0⟩)
def f_p_awaitDefinition (t : Nat) (a0 : Nat) (a1 : Int32) (h : XH) : Option (Unit × XH) := (if a0 < hz h ∧ hk h a0 = 3 then (if t < hz h ∧ hk h t = 7 then (if (hi h t 3) < 0 then (some ((), (hsi h a0 2 a1))) else (Option.bind (hr h t 2) fun b4 => (if b4 < hz h ∧ hk h b4 = 104 then (if (nI (hn h b4)) ≤ (hi h t 3) then (some ((), (hsi h a0 2 a1))) else (if 0 ≤ (hi h t 3) ∧ (hi h t 3) < nI (hn h b4) ∧ (hn h b4) < 2 ^ 31 then (if 1317 ≤ b4 ∨ b4 = 627 ∨ b4 = 1243 then (if t < hz (hsr (hsi h a0 2 a1) b4 (Int32.toNatClampNeg (hi h t 3)) (some a0)) ∧ hk (hsr (hsi h a0 2 a1) b4 (Int32.toNatClampNeg (hi h t 3)) (some a0)) t = 7 then (some ((), (hsi (hsr (hsi h a0 2 a1) b4 (Int32.toNatClampNeg (hi h t 3)) (some a0)) t 3 ((hi (hsr (hsi h a0 2 a1) b4 (Int32.toNatClampNeg (hi h t 3)) (some a0)) t 3) + 1)))) else none) else none) else none)) else none))) else none) else none)
set_option maxRecDepth 20000 in
theorem kf_p_awaitDefinition {l : Launch} {G : XG} {d : Nat} {t : Nat} {a0 : Nat} {a1 : Int32} {h : XH} {r : Unit × XH} (L0 : LY h) (hf : f_p_awaitDefinition t a0 a1 h = some r) : XC l G xEX7_awaitDefinition d [.ref t, .ref a0, .int a1] h (fun v h2 => (h2 = r.2 ∧ v = none) ∧ LY r.2) := by
  refine XC.virt xvX7_awaitDefinition (Nat.le_of_ble_eq_true rfl) ?_
  unfold f_p_awaitDefinition at hf
  refine XR.norm (L3 := [some (.ref t), some (.ref a0), some (.int a1)]) rfl ?_
  refine XS.go (s_aloadn rfl rfl rfl) ?_
  refine XS.go (s_iloadn rfl rfl rfl) ?_
  replace hf := xi_none hf
  obtain ⟨qk1, hf⟩ := hf
  refine XS.go (s_puti rfl xf7_226 qk1.1 qk1.2 (by decide) rfl (Or.inl rfl)) ?_
  refine XS.go (s_aloadn rfl rfl rfl) ?_
  replace hf := xi_none hf
  obtain ⟨qk2, hf⟩ := hf
  refine XS.go (s_getie rfl xf7_17 (show t < hz _ by simp only [hz_hsi, hk_hsi, hz_hsj, hk_hsj]; exact qk2.1) (by simp only [hz_hsi, hk_hsi, hz_hsj, hk_hsj]; exact qk2.2) (by decide) rfl (hi_hsi_nk (by decide))) ?_
  refine r_if_lt (tgt := 44) rfl rfl (fun qc3 => ?_) (fun qc3 => ?_)
  · replace hf := xi_pos hf qc3
    cases hf
    exact XR.retv rfl rfl (fun hret => ⟨_, hret, ⟨rfl, rfl⟩, (by simp only [LY_si, LY_sj]; exact L0)⟩)
  · replace hf := xi_neg hf qc3
    refine XS.go (s_aloadn rfl rfl rfl) ?_
    refine XS.go (s_getie rfl xf7_17 (show t < hz _ by simp only [hz_hsi, hk_hsi, hz_hsj, hk_hsj]; exact qk2.1) (by simp only [hz_hsi, hk_hsi, hz_hsj, hk_hsj]; exact qk2.2) (by decide) rfl (hi_hsi_nk (by decide))) ?_
    refine XS.go (s_aloadn rfl rfl rfl) ?_
    replace hf := xb_some hf
    obtain ⟨b4, qr5, hf⟩ := hf
    refine XS.go (s_getr rfl xf7_13 (show t < hz _ by simp only [hz_hsi, hk_hsi, hz_hsj, hk_hsj]; exact qk2.1) (by simp only [hz_hsi, hk_hsi, hz_hsj, hk_hsj]; exact qk2.2) (by decide) rfl (by simp only [hr_hsi, hr_hsj]; exact qr5)) ?_
    replace hf := xi_none hf
    obtain ⟨qk6, hf⟩ := hf
    refine XS.go (s_alene (N := hn h b4) rfl (show b4 < hz _ by simp only [hz_hsi, hk_hsi, hz_hsj, hk_hsj]; exact qk6.1) (by simp only [hz_hsi, hk_hsi, hz_hsj, hk_hsj]; exact qk6.2) (by simp only [hn_hsi, hn_hsj]) (by decide)) ?_
    refine r_icmp_ge (tgt := 44) rfl rfl (fun qc7 => ?_) (fun qc7 => ?_)
    · replace hf := xi_pos hf qc7
      cases hf
      exact XR.retv rfl rfl (fun hret => ⟨_, hret, ⟨rfl, rfl⟩, (by simp only [LY_si, LY_sj]; exact L0)⟩)
    · replace hf := xi_neg hf qc7
      refine XS.go (s_aloadn rfl rfl rfl) ?_
      refine XS.go (s_getr rfl xf7_13 (show t < hz _ by simp only [hz_hsi, hk_hsi, hz_hsj, hk_hsj]; exact qk2.1) (by simp only [hz_hsi, hk_hsi, hz_hsj, hk_hsj]; exact qk2.2) (by decide) rfl (by simp only [hr_hsi, hr_hsj]; exact qr5)) ?_
      refine XS.go (s_aloadn rfl rfl rfl) ?_
      refine XS.go (s_getie rfl xf7_17 (show t < hz _ by simp only [hz_hsi, hk_hsi, hz_hsj, hk_hsj]; exact qk2.1) (by simp only [hz_hsi, hk_hsi, hz_hsj, hk_hsj]; exact qk2.2) (by decide) rfl (hi_hsi_nk (by decide))) ?_
      refine XS.go (s_aloadn rfl rfl rfl) ?_
      replace hf := xi_none hf
      obtain ⟨qk8, hf⟩ := hf
      replace hf := xi_none hf
      obtain ⟨qk9, hf⟩ := hf
      have L10 : LY (hsr (hsi h a0 2 a1) b4 (Int32.toNatClampNeg (hi h t 3)) (some a0)) := LY.sra (by simp only [LY_si, LY_sj]; exact L0) qk9
      refine XS.go (s_aast104 rfl (show b4 < hz _ by simp only [hz_hsi, hk_hsi, hz_hsj, hk_hsj]; exact qk6.1) (by simp only [hz_hsi, hk_hsi, hz_hsj, hk_hsj]; exact qk6.2) (inLit (N := hn h b4) (by simp only [hn_hsi, hn_hsj]) qk8.1 qk8.2.1 qk8.2.2) (show a0 < hz _ by simp only [hz_hsi, hk_hsi, hz_hsj, hk_hsj]; exact qk1.1) (by simp only [hz_hsi, hk_hsi, hz_hsj, hk_hsj]; exact qk1.2)) ?_
      refine XS.go (s_aloadn rfl rfl rfl) ?_
      refine XS.go (s_dup rfl rfl) ?_
      replace hf := xi_none hf
      obtain ⟨qk11, hf⟩ := hf
      refine XS.go (s_getie rfl xf7_17 qk11.1 qk11.2 (by decide) rfl rfl) ?_
      refine XS.go (s_iconst (v := 1) rfl rfl) ?_
      refine XS.go (s_iadd rfl) ?_
      refine XS.go (s_puti rfl xf7_17 qk11.1 qk11.2 (by decide) rfl (Or.inl rfl)) ?_
      cases hf
      exact XR.retv rfl rfl (fun hret => ⟨_, hret, ⟨rfl, rfl⟩, (by simp only [LY_si, LY_sj]; exact L10)⟩)
def b_p_readType_97 (x0 : Nat) (x1 : Nat) (x2 : Int32) (h : XH) : Option (Int32 × XH) := (if x0 < hz h ∧ hk h x0 = 7 then (Option.bind (f_p_advance x0 h) fun r2 => (if ¬ x2 = 0 then (if x1 < hz r2.2 ∧ hk r2.2 x1 = 3 then (if x0 < hz r2.2 ∧ hk r2.2 x0 = 7 then (Option.bind (f_p_expect x0 93 (hsi (hsi r2.2 x1 5 (hi r2.2 x1 3)) x1 3 5)) fun r8 => (if r8.1 = 0 ∨ r8.1 = 1 then (some (r8.1, r8.2)) else none)) else none) else none) else (some (1, r2.2)))) else none)
set_option maxRecDepth 20000 in
theorem kb_p_readType_97 {l : Launch} {G : XG} {d : Nat} {x0 : Nat} {x1 : Nat} {x2 : Int32} {h : XH} {r : Int32 × XH} (L0 : LY h) (hf : b_p_readType_97 x0 x1 x2 h = some r) : XR l G xEX7_readType (d + 3) (97, [some (.ref x0), some (.ref x1), some (.int x2)], [], h) (fun C => ∃ v, xRet xEX7_readType C v ∧ (C.2.2.2 = r.2 ∧ v = some (.int r.1)) ∧ LY r.2) := by
  unfold b_p_readType_97 at hf
  refine XS.go (s_aloadn rfl rfl rfl) ?_
  replace hf := xi_none hf
  obtain ⟨qk1, hf⟩ := hf
  replace hf := xb_some hf
  obtain ⟨r2, e3, hf⟩ := hf
  refine r_callv rfl xvX7_advance xm7_82 (kf_p_advance (d := d) L0 e3) qk1.1 qk1.2 (by decide) rfl rfl (dl (by decide)) (by decide) (Nat.le_of_ble_eq_true rfl) ?_
  rintro _ _ ⟨⟨rfl, rfl⟩, L4⟩
  refine XS.go (s_iloadn rfl rfl rfl) ?_
  refine r_if_ne (tgt := 107) rfl rfl (fun qc5 => ?_) (fun qc5 => ?_)
  · replace hf := xi_pos hf qc5
    refine XS.go (s_aloadn rfl rfl rfl) ?_
    refine XS.go (s_aloadn rfl rfl rfl) ?_
    replace hf := xi_none hf
    obtain ⟨qk6, hf⟩ := hf
    refine XS.go (s_getie rfl xf7_158 qk6.1 qk6.2 (by decide) rfl rfl) ?_
    refine XS.go (s_puti rfl xf7_223 qk6.1 qk6.2 (by decide) rfl (Or.inl rfl)) ?_
    refine XS.go (s_aloadn rfl rfl rfl) ?_
    refine XS.go (s_iconst (v := 5) rfl rfl) ?_
    refine XS.go (s_puti rfl xf7_158 (show x1 < hz _ by simp only [hz_hsi, hk_hsi, hz_hsj, hk_hsj]; exact qk6.1) (by simp only [hz_hsi, hk_hsi, hz_hsj, hk_hsj]; exact qk6.2) (by decide) rfl (Or.inl rfl)) ?_
    refine XS.go (s_aloadn rfl rfl rfl) ?_
    refine XS.go (s_bipush (v := 93) rfl rfl) ?_
    replace hf := xi_none hf
    obtain ⟨qk7, hf⟩ := hf
    replace hf := xb_some hf
    obtain ⟨r8, e9, hf⟩ := hf
    refine r_callv rfl xvX7_expect xm7_134 (kf_p_expect (d := d) (by simp only [LY_si, LY_sj]; exact L4) e9) (show x0 < hz _ by simp only [hz_hsi, hk_hsi, hz_hsj, hk_hsj]; exact qk7.1) (by simp only [hz_hsi, hk_hsi, hz_hsj, hk_hsj]; exact qk7.2) (by decide) rfl rfl (dl (by decide)) (by decide) (Nat.le_of_ble_eq_true rfl) ?_
    rintro _ _ ⟨⟨rfl, rfl⟩, L10⟩
    replace hf := xi_none hf
    obtain ⟨qk11, hf⟩ := hf
    cases hf
    exact XR.retz rfl rfl qk11 (fun hret => ⟨_, hret, ⟨rfl, rfl⟩, L10⟩)
  · replace hf := xi_neg hf qc5
    refine XS.go (s_iconst (v := 1) rfl rfl) ?_
    cases hf
    exact XR.retz rfl rfl (by decide) (fun hret => ⟨_, hret, ⟨rfl, rfl⟩, L4⟩)
def b_p_readType_23 (x0 : Nat) (x1 : Nat) (x2 : Int32) (h : XH) : Option (Int32 × XH) := (if x0 < hz h ∧ hk h x0 = 7 then (if ¬ (hi h x0 6) = 4 then (if ¬ (hi h x0 6) = 5 then (if ¬ (hi h x0 6) = 2 then (Option.bind (f_p_fail x0 2 h) fun r16 => (if r16.1 = 0 ∨ r16.1 = 1 then (some (r16.1, r16.2)) else none)) else (Option.bind (f_p_awaitDefinition x0 x1 (hi h x0 5) h) fun r20 => (b_p_readType_97 x0 x1 x2 r20.2))) else (if x1 < hz h ∧ hk h x1 = 3 then (b_p_readType_97 x0 x1 x2 (hsi h x1 3 1)) else none)) else (if x1 < hz h ∧ hk h x1 = 3 then (Option.bind (hr h x0 0) fun b25 => (if b25 = 7 then (Option.bind (f_x_head (hi h x0 5) (hsi h x1 3 0)) fun r28 => (if x1 < hz r28.2 ∧ hk r28.2 x1 = 3 then (b_p_readType_97 x0 x1 x2 (hsi r28.2 x1 4 (Int64.toInt32 r28.1))) else none)) else none)) else none)) else none)
set_option maxRecDepth 20000 in
theorem kb_p_readType_23 {l : Launch} {G : XG} {d : Nat} {x0 : Nat} {x1 : Nat} {x2 : Int32} {h : XH} {r : Int32 × XH} (L0 : LY h) (hf : b_p_readType_23 x0 x1 x2 h = some r) : XR l G xEX7_readType (d + 3) (23, [some (.ref x0), some (.ref x1), some (.int x2)], [], h) (fun C => ∃ v, xRet xEX7_readType C v ∧ (C.2.2.2 = r.2 ∧ v = some (.int r.1)) ∧ LY r.2) := by
  unfold b_p_readType_23 at hf
  refine XS.go (s_aloadn rfl rfl rfl) ?_
  replace hf := xi_none hf
  obtain ⟨qk12, hf⟩ := hf
  refine XS.go (s_getie rfl xf7_31 qk12.1 qk12.2 (by decide) rfl rfl) ?_
  refine XS.go (s_iconst (v := 4) rfl rfl) ?_
  refine r_icmp_ne (tgt := 55) rfl rfl (fun qc13 => ?_) (fun qc13 => ?_)
  · replace hf := xi_pos hf qc13
    refine XS.go (s_aloadn rfl rfl rfl) ?_
    refine XS.go (s_getie rfl xf7_31 qk12.1 qk12.2 (by decide) rfl rfl) ?_
    refine XS.go (s_iconst (v := 5) rfl rfl) ?_
    refine r_icmp_ne (tgt := 71) rfl rfl (fun qc14 => ?_) (fun qc14 => ?_)
    · replace hf := xi_pos hf qc14
      refine XS.go (s_aloadn rfl rfl rfl) ?_
      refine XS.go (s_getie rfl xf7_31 qk12.1 qk12.2 (by decide) rfl rfl) ?_
      refine XS.go (s_iconst (v := 2) rfl rfl) ?_
      refine r_icmp_ne (tgt := 91) rfl rfl (fun qc15 => ?_) (fun qc15 => ?_)
      · replace hf := xi_pos hf qc15
        refine XS.go (s_aloadn rfl rfl rfl) ?_
        refine XS.go (s_iconst (v := 2) rfl rfl) ?_
        replace hf := xb_some hf
        obtain ⟨r16, e17, hf⟩ := hf
        refine r_callv rfl xvX7_fail xm7_78 (kf_p_fail (d := d) L0 e17) qk12.1 qk12.2 (by decide) rfl rfl (dl (by decide)) (by decide) (Nat.le_of_ble_eq_true rfl) ?_
        rintro _ _ ⟨⟨rfl, rfl⟩, L18⟩
        replace hf := xi_none hf
        obtain ⟨qk19, hf⟩ := hf
        cases hf
        exact XR.retz rfl rfl qk19 (fun hret => ⟨_, hret, ⟨rfl, rfl⟩, L18⟩)
      · replace hf := xi_neg hf qc15
        refine XS.go (s_aloadn rfl rfl rfl) ?_
        refine XS.go (s_aloadn rfl rfl rfl) ?_
        refine XS.go (s_aloadn rfl rfl rfl) ?_
        refine XS.go (s_getie rfl xf7_26 qk12.1 qk12.2 (by decide) rfl rfl) ?_
        replace hf := xb_some hf
        obtain ⟨r20, e21, hf⟩ := hf
        refine r_callv rfl xvX7_awaitDefinition xm7_219 (kf_p_awaitDefinition (d := d) L0 e21) qk12.1 qk12.2 (by decide) rfl rfl (dl0 (by decide)) (by decide) (Nat.le_of_ble_eq_true rfl) ?_
        rintro _ _ ⟨⟨rfl, rfl⟩, L22⟩
        refine XS.go (s_goto (tgt := 97) rfl rfl) ?_
        exact XR.forget (L2 := [some (.ref x0), some (.ref x1), some (.int x2)]) ⟨rfl, ⟨rfl, ⟨rfl, trivial⟩⟩⟩ (kb_p_readType_97 L22 hf)
    · replace hf := xi_neg hf qc14
      refine XS.go (s_aloadn rfl rfl rfl) ?_
      refine XS.go (s_iconst (v := 1) rfl rfl) ?_
      replace hf := xi_none hf
      obtain ⟨qk23, hf⟩ := hf
      refine XS.go (s_puti rfl xf7_158 qk23.1 qk23.2 (by decide) rfl (Or.inl rfl)) ?_
      refine XS.go (s_goto (tgt := 97) rfl rfl) ?_
      exact XR.forget (L2 := [some (.ref x0), some (.ref x1), some (.int x2)]) ⟨rfl, ⟨rfl, ⟨rfl, trivial⟩⟩⟩ (kb_p_readType_97 (by simp only [LY_si, LY_sj]; exact L0) hf)
  · replace hf := xi_neg hf qc13
    refine XS.go (s_aloadn rfl rfl rfl) ?_
    refine XS.go (s_iconst (v := 0) rfl rfl) ?_
    replace hf := xi_none hf
    obtain ⟨qk24, hf⟩ := hf
    refine XS.go (s_puti rfl xf7_158 qk24.1 qk24.2 (by decide) rfl (Or.inl rfl)) ?_
    refine XS.go (s_aloadn rfl rfl rfl) ?_
    refine XS.go (s_aloadn rfl rfl rfl) ?_
    replace hf := xb_some hf
    obtain ⟨b25, qr26, hf⟩ := hf
    refine XS.go (s_getr rfl xf7_40 (show x0 < hz _ by simp only [hz_hsi, hk_hsi, hz_hsj, hk_hsj]; exact qk12.1) (by simp only [hz_hsi, hk_hsi, hz_hsj, hk_hsj]; exact qk12.2) (by decide) rfl (by simp only [hr_hsi, hr_hsj]; exact qr26)) ?_
    refine XS.go (s_aloadn rfl rfl rfl) ?_
    refine XS.go (s_getie rfl xf7_26 (show x0 < hz _ by simp only [hz_hsi, hk_hsi, hz_hsj, hk_hsj]; exact qk12.1) (by simp only [hz_hsi, hk_hsi, hz_hsj, hk_hsj]; exact qk12.2) (by decide) rfl (hi_hsi_nk (by decide))) ?_
    replace hf := xi_none hf
    obtain ⟨qk27, hf⟩ := hf
    subst qk27
    replace hf := xb_some hf
    obtain ⟨r28, e29, hf⟩ := hf
    refine r_callv rfl xvX6_head xm7_109 (kf_x_head (d := d) (by simp only [LY_si, LY_sj]; exact L0) e29) (LY.lt (by simp only [LY_si, LY_sj]; exact L0) (by decide)) (LY.k7 (by simp only [LY_si, LY_sj]; exact L0)) (by decide) rfl rfl (dl0 (by decide)) (by decide) (Nat.le_of_ble_eq_true rfl) ?_
    rintro _ _ ⟨⟨rfl, rfl⟩, L30⟩
    refine XS.go (s_l2i rfl) ?_
    replace hf := xi_none hf
    obtain ⟨qk31, hf⟩ := hf
    refine XS.go (s_puti rfl xf7_69 qk31.1 qk31.2 (by decide) rfl (Or.inl rfl)) ?_
    refine XS.go (s_goto (tgt := 97) rfl rfl) ?_
    exact XR.forget (L2 := [some (.ref x0), some (.ref x1), some (.int x2)]) ⟨rfl, ⟨rfl, ⟨rfl, trivial⟩⟩⟩ (kb_p_readType_97 (by simp only [LY_si, LY_sj]; exact L30) hf)
def b_p_readType_14 (x0 : Nat) (x1 : Nat) (y0 : Int32) (h : XH) : Option (Int32 × XH) := (if y0 = 0 then (b_p_readType_23 x0 x1 y0 h) else (if x0 < hz h ∧ hk h x0 = 7 then (Option.bind (f_p_advance x0 h) fun r34 => (b_p_readType_23 x0 x1 y0 r34.2)) else none))
set_option maxRecDepth 20000 in
theorem kb_p_readType_14 {l : Launch} {G : XG} {d : Nat} {x0 : Nat} {x1 : Nat} {y0 : Int32} {h : XH} {r : Int32 × XH} (L0 : LY h) (hf : b_p_readType_14 x0 x1 y0 h = some r) : XR l G xEX7_readType (d + 3) (14, [some (.ref x0), some (.ref x1), none], [(.int y0)], h) (fun C => ∃ v, xRet xEX7_readType C v ∧ (C.2.2.2 = r.2 ∧ v = some (.int r.1)) ∧ LY r.2) := by
  unfold b_p_readType_14 at hf
  refine XS.go (XS.lcl (L3 := [some (.ref x0), some (.ref x1), some (.int y0)]) (s_istoren rfl rfl (Nat.le_of_ble_eq_true rfl)) rfl) ?_
  refine XS.go (s_iloadn rfl rfl rfl) ?_
  refine r_if_eq (tgt := 23) rfl rfl (fun qc32 => ?_) (fun qc32 => ?_)
  · replace hf := xi_pos hf qc32
    exact XR.forget (L2 := [some (.ref x0), some (.ref x1), some (.int y0)]) ⟨rfl, ⟨rfl, ⟨rfl, trivial⟩⟩⟩ (kb_p_readType_23 L0 hf)
  · replace hf := xi_neg hf qc32
    refine XS.go (s_aloadn rfl rfl rfl) ?_
    replace hf := xi_none hf
    obtain ⟨qk33, hf⟩ := hf
    replace hf := xb_some hf
    obtain ⟨r34, e35, hf⟩ := hf
    refine r_callv rfl xvX7_advance xm7_82 (kf_p_advance (d := d) L0 e35) qk33.1 qk33.2 (by decide) rfl rfl (dl (by decide)) (by decide) (Nat.le_of_ble_eq_true rfl) ?_
    rintro _ _ ⟨⟨rfl, rfl⟩, L36⟩
    exact XR.forget (L2 := [some (.ref x0), some (.ref x1), some (.int y0)]) ⟨rfl, ⟨rfl, ⟨rfl, trivial⟩⟩⟩ (kb_p_readType_23 L36 hf)
def f_p_readType (t : Nat) (a0 : Nat) (h : XH) : Option (Int32 × XH) := (if t < hz h ∧ hk h t = 7 then (if ¬ (hi h t 6) = 91 then (b_p_readType_14 t a0 0 h) else (b_p_readType_14 t a0 1 h)) else none)
set_option maxRecDepth 20000 in
theorem kf_p_readType {l : Launch} {G : XG} {d : Nat} {t : Nat} {a0 : Nat} {h : XH} {r : Int32 × XH} (L0 : LY h) (hf : f_p_readType t a0 h = some r) : XC l G xEX7_readType (d + 3) [.ref t, .ref a0] h (fun v h2 => (h2 = r.2 ∧ v = some (.int r.1)) ∧ LY r.2) := by
  refine XC.virt xvX7_readType (Nat.le_of_ble_eq_true rfl) ?_
  unfold f_p_readType at hf
  refine XR.norm (L3 := [some (.ref t), some (.ref a0), none]) rfl ?_
  refine XS.go (s_aloadn rfl rfl rfl) ?_
  replace hf := xi_none hf
  obtain ⟨qk37, hf⟩ := hf
  refine XS.go (s_getie rfl xf7_31 qk37.1 qk37.2 (by decide) rfl rfl) ?_
  refine XS.go (s_bipush (v := 91) rfl rfl) ?_
  refine r_icmp_ne (tgt := 13) rfl rfl (fun qc38 => ?_) (fun qc38 => ?_)
  · replace hf := xi_pos hf qc38
    refine XS.go (s_iconst (v := 0) rfl rfl) ?_
    exact XR.forget (L2 := [some (.ref t), some (.ref a0), none]) ⟨rfl, ⟨rfl, trivial⟩⟩ (kb_p_readType_14 L0 hf)
  · replace hf := xi_neg hf qc38
    refine XS.go (s_iconst (v := 1) rfl rfl) ?_
    refine XS.go (s_goto (tgt := 14) rfl rfl) ?_
    exact XR.forget (L2 := [some (.ref t), some (.ref a0), none]) ⟨rfl, ⟨rfl, trivial⟩⟩ (kb_p_readType_14 L0 hf)
def b_p_readTable_93 (x0 : Nat) (h : XH) : Option (Int32 × XH) := (if x0 < hz h ∧ hk h x0 = 7 then (Option.bind (f_p_expect x0 125 h) fun r2 => (if r2.1 = 0 ∨ r2.1 = 1 then (some (r2.1, r2.2)) else none)) else none)
set_option maxRecDepth 20000 in
theorem kb_p_readTable_93 {l : Launch} {G : XG} {d : Nat} {x0 : Nat} {h : XH} {r : Int32 × XH} (L0 : LY h) (hf : b_p_readTable_93 x0 h = some r) : XR l G xEX7_readTable (d + 4) (93, [some (.ref x0), none, none, none], [], h) (fun C => ∃ v, xRet xEX7_readTable C v ∧ (C.2.2.2 = r.2 ∧ v = some (.int r.1)) ∧ LY r.2) := by
  unfold b_p_readTable_93 at hf
  refine XS.go (s_aloadn rfl rfl rfl) ?_
  refine XS.go (s_bipush (v := 125) rfl rfl) ?_
  replace hf := xi_none hf
  obtain ⟨qk1, hf⟩ := hf
  replace hf := xb_some hf
  obtain ⟨r2, e3, hf⟩ := hf
  refine r_callv rfl xvX7_expect xm7_134 (kf_p_expect (d := d) L0 e3) qk1.1 qk1.2 (by decide) rfl rfl (dl (by decide)) (by decide) (Nat.le_of_ble_eq_true rfl) ?_
  rintro _ _ ⟨⟨rfl, rfl⟩, L4⟩
  replace hf := xi_none hf
  obtain ⟨qk5, hf⟩ := hf
  cases hf
  exact XR.retz rfl rfl qk5 (fun hret => ⟨_, hret, ⟨rfl, rfl⟩, L4⟩)
def s_p_readTable_17 (K17 : Nat → Option Nat → Int32 → XH → Option (Int32 × XH)) (x0 : Nat) (x1 : Option Nat) (x2 : Int32) (h : XH) : Option (Int32 × XH) := (if x0 < hz h ∧ hk h x0 = 7 then (if (hi h x0 6) = 125 then (b_p_readTable_93 x0 h) else (if 4000 < x2 then (b_p_readTable_93 x0 h) else (Option.bind (x1) fun b9 => (Option.bind (f_p_newField x0 b9 h) fun r11 => (Option.elim (r11.1) (some (0, r11.2)) fun b15 => (if x0 < hz r11.2 ∧ hk r11.2 x0 = 7 then (Option.bind (f_p_expect x0 58 r11.2) fun r17 => (if r17.1 = 0 then (some (0, r17.2)) else (if x0 < hz r17.2 ∧ hk r17.2 x0 = 7 then (Option.bind (f_p_readType x0 b15 r17.2) fun r22 => (if r22.1 = 0 then (some (0, r22.2)) else (if x0 < hz r22.2 ∧ hk r22.2 x0 = 7 then (Option.bind (f_p_readDefault x0 b15 r22.2) fun r27 => (if r27.1 = 0 then (some (0, r27.2)) else (if x0 < hz r27.2 ∧ hk r27.2 x0 = 7 then (Option.bind (f_p_readRequired x0 b15 r27.2) fun r32 => (if r32.1 = 0 then (some (0, r32.2)) else (if x0 < hz r32.2 ∧ hk r32.2 x0 = 7 then (Option.bind (f_p_expect x0 59 r32.2) fun r37 => (if ¬ r37.1 = 0 then (K17 x0 (some b9) (x2 + 1) r37.2) else (some (0, r37.2)))) else none))) else none))) else none))) else none))) else none)))))) else none)
set_option maxRecDepth 20000 in
theorem ks_p_readTable_17 {l : Launch} {G : XG} {d : Nat} {K17 : Nat → Option Nat → Int32 → XH → Option (Int32 × XH)} {x0 : Nat} {x1 : Option Nat} {x2 : Int32} {h : XH} {r : Int32 × XH} (hK17 : ∀ (x0 : Nat) (x1 : Option Nat) (x2 : Int32) (h : XH), LY h → K17 x0 x1 x2 h = some r → XR l G xEX7_readTable (d + 4) (17, [some (.ref x0), some (va_rf x1), some (.int x2), none], [], h) (fun C => ∃ v, xRet xEX7_readTable C v ∧ (C.2.2.2 = r.2 ∧ v = some (.int r.1)) ∧ LY r.2)) (L0 : LY h) (hf : s_p_readTable_17 K17 x0 x1 x2 h = some r) : XR l G xEX7_readTable (d + 4) (17, [some (.ref x0), some (va_rf x1), some (.int x2), none], [], h) (fun C => ∃ v, xRet xEX7_readTable C v ∧ (C.2.2.2 = r.2 ∧ v = some (.int r.1)) ∧ LY r.2) := by
  unfold s_p_readTable_17 at hf
  refine XS.go (s_aloadn rfl rfl rfl) ?_
  replace hf := xi_none hf
  obtain ⟨qk6, hf⟩ := hf
  refine XS.go (s_getie rfl xf7_31 qk6.1 qk6.2 (by decide) rfl rfl) ?_
  refine XS.go (s_bipush (v := 125) rfl rfl) ?_
  refine r_icmp_eq (tgt := 93) rfl rfl (fun qc7 => ?_) (fun qc7 => ?_)
  · replace hf := xi_pos hf qc7
    exact XR.forget (L2 := [some (.ref x0), none, none, none]) ⟨rfl, trivial⟩ (kb_p_readTable_93 L0 hf)
  · replace hf := xi_neg hf qc7
    refine XS.go (s_iloadn rfl rfl rfl) ?_
    refine XS.go (s_sipush (v := 4000) rfl rfl) ?_
    refine r_icmp_gt (tgt := 93) rfl rfl (fun qc8 => ?_) (fun qc8 => ?_)
    · replace hf := xi_pos hf qc8
      exact XR.forget (L2 := [some (.ref x0), none, none, none]) ⟨rfl, trivial⟩ (kb_p_readTable_93 L0 hf)
    · replace hf := xi_neg hf qc8
      refine XS.go (s_aloadn rfl rfl rfl) ?_
      refine XS.go (s_aloadnO rfl rfl rfl) ?_
      replace hf := xb_some hf
      obtain ⟨b9, qo10, hf⟩ := hf
      try rw [qo10]
      replace hf := xb_some hf
      obtain ⟨r11, e12, hf⟩ := hf
      refine r_callv rfl xvX7_newField xm7_137 (kf_p_newField (d := d) L0 e12) qk6.1 qk6.2 (by decide) rfl rfl (dl (by decide)) (by decide) (Nat.le_of_ble_eq_true rfl) ?_
      rintro _ _ ⟨⟨rfl, rfl⟩, L13⟩
      refine XS.go (XS.lcl (L3 := [some (.ref x0), some (.ref b9), some (.int x2), some (va_rf r11.1)]) (s_astorenO rfl rfl (Nat.le_of_ble_eq_true rfl)) rfl) ?_
      refine XS.go (s_aloadnO rfl rfl rfl) ?_
      refine r_ifnull (tgt := 85) rfl rfl (fun qn14 => ?_) (fun b15 qn14 => ?_)
      · replace hf := xo_none hf qn14
        try rw [qn14]
        refine XS.go (s_iconst (v := 0) rfl rfl) ?_
        cases hf
        exact XR.retz rfl rfl (by decide) (fun hret => ⟨_, hret, ⟨rfl, rfl⟩, L13⟩)
      · replace hf := xo_some hf qn14
        try rw [qn14]
        refine XS.go (s_aloadn rfl rfl rfl) ?_
        refine XS.go (s_bipush (v := 58) rfl rfl) ?_
        replace hf := xi_none hf
        obtain ⟨qk16, hf⟩ := hf
        replace hf := xb_some hf
        obtain ⟨r17, e18, hf⟩ := hf
        refine r_callv rfl xvX7_expect xm7_134 (kf_p_expect (d := d) L13 e18) qk16.1 qk16.2 (by decide) rfl rfl (dl (by decide)) (by decide) (Nat.le_of_ble_eq_true rfl) ?_
        rintro _ _ ⟨⟨rfl, rfl⟩, L19⟩
        refine r_if_eq (tgt := 85) rfl rfl (fun qc20 => ?_) (fun qc20 => ?_)
        · replace hf := xi_pos hf qc20
          refine XS.go (s_iconst (v := 0) rfl rfl) ?_
          cases hf
          exact XR.retz rfl rfl (by decide) (fun hret => ⟨_, hret, ⟨rfl, rfl⟩, L19⟩)
        · replace hf := xi_neg hf qc20
          refine XS.go (s_aloadn rfl rfl rfl) ?_
          refine XS.go (s_aloadn rfl rfl rfl) ?_
          replace hf := xi_none hf
          obtain ⟨qk21, hf⟩ := hf
          replace hf := xb_some hf
          obtain ⟨r22, e23, hf⟩ := hf
          refine r_callv rfl xvX7_readType xm7_209 (kf_p_readType (d := d) L19 e23) qk21.1 qk21.2 (by decide) rfl rfl (dl (by decide)) (by decide) (Nat.le_of_ble_eq_true rfl) ?_
          rintro _ _ ⟨⟨rfl, rfl⟩, L24⟩
          refine r_if_eq (tgt := 85) rfl rfl (fun qc25 => ?_) (fun qc25 => ?_)
          · replace hf := xi_pos hf qc25
            refine XS.go (s_iconst (v := 0) rfl rfl) ?_
            cases hf
            exact XR.retz rfl rfl (by decide) (fun hret => ⟨_, hret, ⟨rfl, rfl⟩, L24⟩)
          · replace hf := xi_neg hf qc25
            refine XS.go (s_aloadn rfl rfl rfl) ?_
            refine XS.go (s_aloadn rfl rfl rfl) ?_
            replace hf := xi_none hf
            obtain ⟨qk26, hf⟩ := hf
            replace hf := xb_some hf
            obtain ⟨r27, e28, hf⟩ := hf
            refine r_callv rfl xvX7_readDefault xm7_213 (kf_p_readDefault (d := d) L24 e28) qk26.1 qk26.2 (by decide) rfl rfl (dl (by decide)) (by decide) (Nat.le_of_ble_eq_true rfl) ?_
            rintro _ _ ⟨⟨rfl, rfl⟩, L29⟩
            refine r_if_eq (tgt := 85) rfl rfl (fun qc30 => ?_) (fun qc30 => ?_)
            · replace hf := xi_pos hf qc30
              refine XS.go (s_iconst (v := 0) rfl rfl) ?_
              cases hf
              exact XR.retz rfl rfl (by decide) (fun hret => ⟨_, hret, ⟨rfl, rfl⟩, L29⟩)
            · replace hf := xi_neg hf qc30
              refine XS.go (s_aloadn rfl rfl rfl) ?_
              refine XS.go (s_aloadn rfl rfl rfl) ?_
              replace hf := xi_none hf
              obtain ⟨qk31, hf⟩ := hf
              replace hf := xb_some hf
              obtain ⟨r32, e33, hf⟩ := hf
              refine r_callv rfl xvX7_readRequired xm7_216 (kf_p_readRequired (d := d) L29 e33) qk31.1 qk31.2 (by decide) rfl rfl (dl (by decide)) (by decide) (Nat.le_of_ble_eq_true rfl) ?_
              rintro _ _ ⟨⟨rfl, rfl⟩, L34⟩
              refine r_if_eq (tgt := 85) rfl rfl (fun qc35 => ?_) (fun qc35 => ?_)
              · replace hf := xi_pos hf qc35
                refine XS.go (s_iconst (v := 0) rfl rfl) ?_
                cases hf
                exact XR.retz rfl rfl (by decide) (fun hret => ⟨_, hret, ⟨rfl, rfl⟩, L34⟩)
              · replace hf := xi_neg hf qc35
                refine XS.go (s_aloadn rfl rfl rfl) ?_
                refine XS.go (s_bipush (v := 59) rfl rfl) ?_
                replace hf := xi_none hf
                obtain ⟨qk36, hf⟩ := hf
                replace hf := xb_some hf
                obtain ⟨r37, e38, hf⟩ := hf
                refine r_callv rfl xvX7_expect xm7_134 (kf_p_expect (d := d) L34 e38) qk36.1 qk36.2 (by decide) rfl rfl (dl (by decide)) (by decide) (Nat.le_of_ble_eq_true rfl) ?_
                rintro _ _ ⟨⟨rfl, rfl⟩, L39⟩
                refine r_if_ne (tgt := 87) rfl rfl (fun qc40 => ?_) (fun qc40 => ?_)
                · replace hf := xi_pos hf qc40
                  refine XS.go (XS.lcl (L3 := [some (.ref x0), some (.ref b9), some (.int (x2 + 1)), some (.ref b15)]) (s_inc rfl rfl (Nat.le_of_ble_eq_true rfl)) rfl) ?_
                  refine XS.go (s_goto (tgt := 17) rfl rfl) ?_
                  exact XR.forget (L2 := [some (.ref x0), some (.ref b9), some (.int (x2 + 1)), none]) ⟨rfl, ⟨rfl, ⟨rfl, trivial⟩⟩⟩ (hK17 x0 (some b9) (x2 + 1) _ L39 hf)
                · replace hf := xi_neg hf qc40
                  refine XS.go (s_iconst (v := 0) rfl rfl) ?_
                  cases hf
                  exact XR.retz rfl rfl (by decide) (fun hret => ⟨_, hret, ⟨rfl, rfl⟩, L39⟩)
def b_p_readTable_17 : Nat → Nat → Option Nat → Int32 → XH → Option (Int32 × XH)
  | 0, _, _, _, _ => none
  | n + 1, x0, x1, x2, h => s_p_readTable_17 (b_p_readTable_17 n) x0 x1 x2 h
theorem kb_p_readTable_17 {l : Launch} {G : XG} {d : Nat} {n : Nat} {x0 : Nat} {x1 : Option Nat} {x2 : Int32} {h : XH} {r : Int32 × XH} (L0 : LY h) (hf : b_p_readTable_17 n x0 x1 x2 h = some r) : XR l G xEX7_readTable (d + 4) (17, [some (.ref x0), some (va_rf x1), some (.int x2), none], [], h) (fun C => ∃ v, xRet xEX7_readTable C v ∧ (C.2.2.2 = r.2 ∧ v = some (.int r.1)) ∧ LY r.2) := by
  induction n generalizing x0 x1 x2 h with
  | zero => cases hf
  | succ n ih => exact ks_p_readTable_17 (fun x0 x1 x2 h L0 hf => ih (h := h) (x0 := x0) (x1 := x1) (x2 := x2) L0 hf) L0 hf
def f_p_readTable (t : Nat) (a0 : Option Nat) (h : XH) : Option (Int32 × XH) := (Option.elim (a0) (some (0, h)) fun b42 => (if t < hz h ∧ hk h t = 7 then (Option.bind (f_p_expect t 123 h) fun r44 => (if ¬ r44.1 = 0 then (b_p_readTable_17 100000 t (some b42) 0 r44.2) else (some (0, r44.2)))) else none))
set_option maxRecDepth 20000 in
theorem kf_p_readTable {l : Launch} {G : XG} {d : Nat} {t : Nat} {a0 : Option Nat} {h : XH} {r : Int32 × XH} (L0 : LY h) (hf : f_p_readTable t a0 h = some r) : XC l G xEX7_readTable (d + 4) [.ref t, va_rf a0] h (fun v h2 => (h2 = r.2 ∧ v = some (.int r.1)) ∧ LY r.2) := by
  refine XC.virt xvX7_readTable (by cases a0 <;> exact Nat.le_of_ble_eq_true rfl) ?_
  unfold f_p_readTable at hf
  refine XR.norm (L3 := [some (.ref t), some (va_rf a0), none, none]) (by cases a0 <;> rfl) ?_
  refine XS.go (s_aloadnO rfl rfl rfl) ?_
  refine r_ifnull (tgt := 13) rfl rfl (fun qn41 => ?_) (fun b42 qn41 => ?_)
  · replace hf := xo_none hf qn41
    try rw [qn41]
    refine XS.go (s_iconst (v := 0) rfl rfl) ?_
    cases hf
    exact XR.retz rfl rfl (by decide) (fun hret => ⟨_, hret, ⟨rfl, rfl⟩, L0⟩)
  · replace hf := xo_some hf qn41
    try rw [qn41]
    refine XS.go (s_aloadn rfl rfl rfl) ?_
    refine XS.go (s_bipush (v := 123) rfl rfl) ?_
    replace hf := xi_none hf
    obtain ⟨qk43, hf⟩ := hf
    replace hf := xb_some hf
    obtain ⟨r44, e45, hf⟩ := hf
    refine r_callv rfl xvX7_expect xm7_134 (kf_p_expect (d := d) L0 e45) qk43.1 qk43.2 (by decide) rfl rfl (dl (by decide)) (by decide) (Nat.le_of_ble_eq_true rfl) ?_
    rintro _ _ ⟨⟨rfl, rfl⟩, L46⟩
    refine r_if_ne (tgt := 15) rfl rfl (fun qc47 => ?_) (fun qc47 => ?_)
    · replace hf := xi_pos hf qc47
      refine XS.go (s_iconst (v := 0) rfl rfl) ?_
      refine XS.go (XS.lcl (L3 := [some (.ref t), some (.ref b42), some (.int 0), none]) (s_istoren rfl rfl (Nat.le_of_ble_eq_true rfl)) rfl) ?_
      exact XR.forget (L2 := [some (.ref t), some (.ref b42), some (.int 0), none]) ⟨rfl, ⟨rfl, ⟨rfl, trivial⟩⟩⟩ (kb_p_readTable_17 L46 hf)
    · replace hf := xi_neg hf qc47
      refine XS.go (s_iconst (v := 0) rfl rfl) ?_
      cases hf
      exact XR.retz rfl rfl (by decide) (fun hret => ⟨_, hret, ⟨rfl, rfl⟩, L46⟩)
