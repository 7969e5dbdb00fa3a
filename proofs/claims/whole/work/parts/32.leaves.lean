/-! FlatTables' statics -/
def sb (i : Int32) : Int32 := if 0 ≤ i ∧ i < 11 then xSB i.toNatClampNeg else 1
def isS (i : Int32) : Prop := 0 ≤ i ∧ i < 11
def isV (i : Int32) (v : Int64) : Prop := (0 ≤ i ∧ i < 11) ∧ xLO i.toNatClampNeg ≤ v ∧ v ≤ xHI i.toNatClampNeg
def hasS (i : Int32) : Prop := (0 ≤ i ∧ i < 11) ∧ xLO i.toNatClampNeg < 0
def rUp (n a : Int32) : Int32 := (n + a - 1) &&& (-a)
theorem in11 {i : Int32} (h0 : 0 ≤ i) (h1 : i < 11) : vp_in i 11 := in_of (N := 11) rfl (by decide) (Int32.not_lt.mpr h0) (Int32.not_le.mpr h1)
theorem notS_l {i : Int32} (h : i < 0) : ¬ (0 ≤ i ∧ i < 11) := fun z => absurd z.1 (Int32.not_le.mpr h)
theorem notS_r {i : Int32} (h : 11 ≤ i) : ¬ (0 ≤ i ∧ i < 11) := fun z => absurd z.2 (Int32.not_lt.mpr h)
set_option maxRecDepth 20000 in
theorem k_isScalar {l : Launch} {G : XG} {h : XH} {d : Nat} {i : Int32} : XC l G xEX11_isScalar d [.int i] h (fun v h2 => h = h2 ∧ ((isS i ∧ v = some (.int 1)) ∨ (¬ isS i ∧ v = some (.int 0)))) := by
  refine XC.stat xsX11_isScalar (Nat.le_of_ble_eq_true rfl) ?_
  refine XS.go (s_iloadn rfl rfl rfl) ?_
  refine r_if_lt (tgt := 14) rfl rfl (fun qc1 => ?_) (fun qc1 => ?_)
  · skip
    refine XS.go (s_iconst (v := 0) rfl rfl) ?_
    refine XR.retz rfl rfl (by decide) (fun hret => ⟨_, hret, ?_⟩)
    refine ⟨rfl, ?_⟩
    exact Or.inr ⟨notS_l qc1, rfl⟩
  · skip
    refine XS.go (s_iloadn rfl rfl rfl) ?_
    refine XS.go (s_bipush (v := 11) rfl rfl) ?_
    refine r_icmp_ge (tgt := 14) rfl rfl (fun qc7 => ?_) (fun qc7 => ?_)
    · skip
      refine XS.go (s_iconst (v := 0) rfl rfl) ?_
      refine XR.retz rfl rfl (by decide) (fun hret => ⟨_, hret, ?_⟩)
      refine ⟨rfl, ?_⟩
      exact Or.inr ⟨notS_r qc7, rfl⟩
    · skip
      refine XS.go (s_iconst (v := 1) rfl rfl) ?_
      refine XS.go (s_goto (tgt := 15) rfl rfl) ?_
      refine XR.retz rfl rfl (by decide) (fun hret => ⟨_, hret, ?_⟩)
      refine ⟨rfl, ?_⟩
      exact Or.inl ⟨⟨Int32.not_lt.mp qc1, Int32.not_le.mp qc7⟩, rfl⟩
set_option maxRecDepth 20000 in
theorem k_scalarBytes {l : Launch} {G : XG} {h : XH} {d : Nat} {i : Int32} : XC l G xEX11_scalarBytes d [.int i] h (fun v h2 => h = h2 ∧ v = some (.int (sb i))) := by
  refine XC.stat xsX11_scalarBytes (Nat.le_of_ble_eq_true rfl) ?_
  refine XS.go (s_iloadn rfl rfl rfl) ?_
  refine r_if_lt (tgt := 20) rfl rfl (fun qc1 => ?_) (fun qc1 => ?_)
  · skip
    refine XS.go (s_iconst (v := 1) rfl rfl) ?_
    refine XR.reti rfl rfl (fun hret => ⟨_, hret, ?_⟩)
    refine ⟨rfl, ?_⟩
    simp only [sb, if_neg (notS_l qc1)]
  · skip
    refine XS.go (s_iloadn rfl rfl rfl) ?_
    refine XS.go (s_gets1 rfl (lg_3 104 rfl rfl)) ?_
    refine XS.go (s_len1 rfl) ?_
    refine r_icmp_ge (tgt := 20) rfl rfl (fun qc9 => ?_) (fun qc9 => ?_)
    · skip
      refine XS.go (s_iconst (v := 1) rfl rfl) ?_
      refine XR.reti rfl rfl (fun hret => ⟨_, hret, ?_⟩)
      refine ⟨rfl, ?_⟩
      simp only [sb, if_neg (notS_r qc9)]
    · skip
      refine XS.go (s_gets1 rfl (lg_3 104 rfl rfl)) ?_
      refine XS.go (s_iloadn rfl rfl rfl) ?_
      refine XS.go (s_ald1 rfl (in11 (Int32.not_lt.mp qc1) (Int32.not_le.mp qc9))) ?_
      refine XS.go (s_goto (tgt := 21) rfl rfl) ?_
      refine XR.reti rfl rfl (fun hret => ⟨_, hret, ?_⟩)
      refine ⟨rfl, ?_⟩
      simp only [sb, if_pos (show 0 ≤ i ∧ i < 11 from ⟨Int32.not_lt.mp qc1, Int32.not_le.mp qc9⟩)]
set_option maxRecDepth 20000 in
theorem k_isValue {l : Launch} {G : XG} {h : XH} {d : Nat} {i : Int32} {x : Int64} : XC l G xEX11_isValue (d + 1) [.int i, .long x] h (fun v h2 => h = h2 ∧ ((isV i x ∧ v = some (.int 1)) ∨ (¬ isV i x ∧ v = some (.int 0)))) := by
  refine XC.stat xsX11_isValue (Nat.le_of_ble_eq_true rfl) ?_
  refine XS.go (s_iloadn rfl rfl rfl) ?_
  refine r_calls rfl xsX11_isScalar xm11_249 (k_isScalar (d := d)) rfl rfl (by omega) (by decide) (Nat.le_of_ble_eq_true rfl) ?_
  rintro _ _ ⟨rfl, qd⟩
  rcases qd with ⟨qs, rfl⟩ | ⟨qs, rfl⟩
  · skip
    refine XS.go (s_if_eq_f (tgt := 31) rfl rfl (by decide)) ?_
    refine XS.go (s_gets2 rfl (lg_3 164 rfl rfl)) ?_
    refine XS.go (s_iloadn rfl rfl rfl) ?_
    refine XS.go (s_ald2 rfl (in11 qs.1 qs.2)) ?_
    refine XS.go (s_lloadn rfl rfl rfl) ?_
    refine XS.go (s_lcmp rfl) ?_
    refine r_if_gt (tgt := 31) rfl rfl (fun qc14 => ?_) (fun qc14 => ?_)
    · skip
      refine XS.go (s_iconst (v := 0) rfl rfl) ?_
      refine XR.retz rfl rfl (by decide) (fun hret => ⟨_, hret, ?_⟩)
      refine ⟨rfl, ?_⟩
      exact Or.inr ⟨fun z => absurd z.2.1 (Int64.not_le.mpr ((lg_cmp_gt _ _).mp qc14)), rfl⟩
    · skip
      refine XS.go (s_lloadn rfl rfl rfl) ?_
      refine XS.go (s_gets3 rfl (lg_3 166 rfl rfl)) ?_
      refine XS.go (s_iloadn rfl rfl rfl) ?_
      refine XS.go (s_ald3 rfl (in11 qs.1 qs.2)) ?_
      refine XS.go (s_lcmp rfl) ?_
      refine r_if_gt (tgt := 31) rfl rfl (fun qc24 => ?_) (fun qc24 => ?_)
      · skip
        refine XS.go (s_iconst (v := 0) rfl rfl) ?_
        refine XR.retz rfl rfl (by decide) (fun hret => ⟨_, hret, ?_⟩)
        refine ⟨rfl, ?_⟩
        exact Or.inr ⟨fun z => absurd z.2.2 (Int64.not_le.mpr ((lg_cmp_gt _ _).mp qc24)), rfl⟩
      · skip
        refine XS.go (s_iconst (v := 1) rfl rfl) ?_
        refine XS.go (s_goto (tgt := 32) rfl rfl) ?_
        refine XR.retz rfl rfl (by decide) (fun hret => ⟨_, hret, ?_⟩)
        refine ⟨rfl, ?_⟩
        exact Or.inl ⟨⟨qs, Int64.not_lt.mp fun z => qc14 ((lg_cmp_gt _ _).mpr z), Int64.not_lt.mp fun z => qc24 ((lg_cmp_gt _ _).mpr z)⟩, rfl⟩
  · skip
    refine XS.go (s_if_eq_t (tgt := 31) rfl rfl rfl) ?_
    refine XS.go (s_iconst (v := 0) rfl rfl) ?_
    refine XR.retz rfl rfl (by decide) (fun hret => ⟨_, hret, ?_⟩)
    exact ⟨rfl, Or.inr ⟨fun z => qs z.1, rfl⟩⟩
set_option maxRecDepth 20000 in
theorem k_hasSign {l : Launch} {G : XG} {h : XH} {d : Nat} {i : Int32} : XC l G xEX11_hasSign (d + 1) [.int i] h (fun v h2 => h = h2 ∧ ((hasS i ∧ v = some (.int 1)) ∨ (¬ hasS i ∧ v = some (.int 0)))) := by
  refine XC.stat xsX11_hasSign (Nat.le_of_ble_eq_true rfl) ?_
  refine XS.go (s_iloadn rfl rfl rfl) ?_
  refine r_calls rfl xsX11_isScalar xm11_249 (k_isScalar (d := d)) rfl rfl (by omega) (by decide) (Nat.le_of_ble_eq_true rfl) ?_
  rintro _ _ ⟨rfl, qd⟩
  rcases qd with ⟨qs, rfl⟩ | ⟨qs, rfl⟩
  · skip
    refine XS.go (s_if_eq_f (tgt := 21) rfl rfl (by decide)) ?_
    refine XS.go (s_gets2 rfl (lg_3 164 rfl rfl)) ?_
    refine XS.go (s_iloadn rfl rfl rfl) ?_
    refine XS.go (s_ald2 rfl (in11 qs.1 qs.2)) ?_
    refine XS.go (s_lconst (v := 0) rfl rfl) ?_
    refine XS.go (s_lcmp rfl) ?_
    refine r_if_ge (tgt := 21) rfl rfl (fun qc14 => ?_) (fun qc14 => ?_)
    · skip
      refine XS.go (s_iconst (v := 0) rfl rfl) ?_
      refine XR.retz rfl rfl (by decide) (fun hret => ⟨_, hret, ?_⟩)
      refine ⟨rfl, ?_⟩
      exact Or.inr ⟨fun z => absurd z.2 (Int64.not_lt.mpr ((lg_cmp_ge _ _).mp qc14)), rfl⟩
    · skip
      refine XS.go (s_iconst (v := 1) rfl rfl) ?_
      refine XS.go (s_goto (tgt := 22) rfl rfl) ?_
      refine XR.retz rfl rfl (by decide) (fun hret => ⟨_, hret, ?_⟩)
      refine ⟨rfl, ?_⟩
      exact Or.inl ⟨⟨qs, Int64.not_le.mp fun z => qc14 ((lg_cmp_ge _ _).mpr z)⟩, rfl⟩
  · skip
    refine XS.go (s_if_eq_t (tgt := 21) rfl rfl rfl) ?_
    refine XS.go (s_iconst (v := 0) rfl rfl) ?_
    refine XR.retz rfl rfl (by decide) (fun hret => ⟨_, hret, ?_⟩)
    exact ⟨rfl, Or.inr ⟨fun z => qs z.1, rfl⟩⟩
set_option maxRecDepth 20000 in
theorem k_roundUp {l : Launch} {G : XG} {h : XH} {d : Nat} {n a : Int32} : XC l G xEX11_roundUp d [.int n, .int a] h (fun v h2 => h = h2 ∧ v = some (.int (rUp n a))) := by
  refine XC.stat xsX11_roundUp (Nat.le_of_ble_eq_true rfl) ?_
  refine XS.go (s_iloadn rfl rfl rfl) ?_
  refine XS.go (s_iloadn rfl rfl rfl) ?_
  refine XS.go (s_iadd rfl) ?_
  refine XS.go (s_iconst (v := 1) rfl rfl) ?_
  refine XS.go (s_isub rfl) ?_
  refine XS.go (s_iloadn rfl rfl rfl) ?_
  refine XS.go (s_ineg rfl) ?_
  refine XS.go (s_iand rfl) ?_
  refine XR.reti rfl rfl (fun hret => ⟨_, hret, ?_⟩)
  exact ⟨rfl, rfl⟩
set_option maxRecDepth 20000 in
theorem k_isAligned {l : Launch} {G : XG} {h : XH} {d : Nat} {n a : Int32} : XC l G xEX11_isAligned d [.int n, .int a] h (fun v h2 => h = h2 ∧ ((n &&& (a - 1) = 0 ∧ v = some (.int 1)) ∨ (¬ n &&& (a - 1) = 0 ∧ v = some (.int 0)))) := by
  refine XC.stat xsX11_isAligned (Nat.le_of_ble_eq_true rfl) ?_
  refine XS.go (s_iloadn rfl rfl rfl) ?_
  refine XS.go (s_iloadn rfl rfl rfl) ?_
  refine XS.go (s_iconst (v := 1) rfl rfl) ?_
  refine XS.go (s_isub rfl) ?_
  refine XS.go (s_iand rfl) ?_
  refine r_if_ne (tgt := 12) rfl rfl (fun qc5 => ?_) (fun qc5 => ?_)
  · skip
    refine XS.go (s_iconst (v := 0) rfl rfl) ?_
    refine XR.retz rfl rfl (by decide) (fun hret => ⟨_, hret, ?_⟩)
    refine ⟨rfl, ?_⟩
    exact Or.inr ⟨qc5, rfl⟩
  · skip
    refine XS.go (s_iconst (v := 1) rfl rfl) ?_
    refine XS.go (s_goto (tgt := 13) rfl rfl) ?_
    refine XR.retz rfl rfl (by decide) (fun hret => ⟨_, hret, ?_⟩)
    refine ⟨rfl, ?_⟩
    exact Or.inl ⟨Classical.not_not.mp qc5, rfl⟩
/-! Values -/
def VA (h : XH) (b cl : Nat) : Prop := b < hz h ∧ hk h b = 10 ∧ hr h b 0 = some cl ∧ cl < hz h ∧ hk h cl = 101 ∧ hn h cl = 600 ∧ hz h ≤ 1000000
set_option maxRecDepth 20000 in
theorem k_valAdd {l : Launch} {G : XG} {h : XH} {b cl d c : Nat} {x : Int64} (B : VA h b cl) (hc0 : hi h b 1 = nI c) (hlt : c < 600) : XC l G xEX10_add d [.ref b, .long x] h (fun v h2 => h2 = hsi (hrj h cl (vp_updL (hj h cl) c x)) b 1 (nI (c + 1)) ∧ v = some (.int (nI (c + 1)))) := by
  obtain ⟨hb, kb, rb, hcl, kcl, ncl, hm⟩ := B
  refine XC.virt xvX10_add (Nat.le_of_ble_eq_true rfl) ?_
  refine XS.go (s_aloadn rfl rfl rfl) ?_
  refine XS.go (s_geti rfl xf10_15 (by assumption) (by assumption) (by decide) rfl) ?_
  rw [hc0]
  refine XS.go (s_if_lt_f (tgt := 19) rfl rfl (nI_pos (by omega))) ?_
  refine XS.go (s_aloadn rfl rfl rfl) ?_
  refine XS.go (s_geti rfl xf10_15 (by assumption) (by assumption) (by decide) rfl) ?_
  refine XS.go (s_aloadn rfl rfl rfl) ?_
  refine XS.go (s_getr rfl xf10_9 (by assumption) (by assumption) (by decide) rfl (by assumption)) ?_
  rw [show hi h b 1 = nI c from hc0]
  refine XS.go (s_alen rfl (by assumption) (by rw [kcl]; decide)) ?_
  refine XS.go (s_icmp_lt_t (tgt := 21) rfl rfl (show nI c < nI (hn h cl) by rw [ncl]; exact nI_lt hlt (by decide))) ?_
  refine XS.go (s_aloadn rfl rfl rfl) ?_
  refine XS.go (s_getr rfl xf10_9 (by assumption) (by assumption) (by decide) rfl (by assumption)) ?_
  refine XS.go (s_aloadn rfl rfl rfl) ?_
  refine XS.go (s_geti rfl xf10_15 (by assumption) (by assumption) (by decide) rfl) ?_
  rw [show hi h b 1 = nI c from hc0]
  refine XS.go (s_lloadn rfl rfl rfl) ?_
  refine XS.go (t_last rfl (by assumption) (by assumption) (in_nI ncl hlt (by decide))) ?_
  rw [nI_clamp (by omega)]
  refine XS.go (s_aloadn rfl rfl rfl) ?_
  refine XS.go (s_dup rfl rfl) ?_
  refine XS.go (s_geti rfl xf10_15 (by assumption) (by assumption) (by decide) rfl) ?_
  refine XS.go (s_iconst (v := 1) rfl rfl) ?_
  rw [show hi (hrj h cl (vp_updL (hj h cl) c x)) b 1 = nI c from hc0]
  refine XS.go (s_iadd rfl) ?_
  rw [nI_1]
  refine XS.go (s_puti rfl xf10_15 (by assumption) (by assumption) (by decide) rfl (Or.inl rfl)) ?_
  refine XS.go (s_aloadn rfl rfl rfl) ?_
  refine XS.go (s_geti rfl xf10_15 (by assumption) (by assumption) (by decide) rfl) ?_
  rw [hi_hsi, if_pos ⟨rfl, rfl⟩]
  refine XR.reti rfl rfl (fun hret => ⟨_, hret, ?_⟩)
  exact ⟨rfl, rfl⟩
set_option maxRecDepth 20000 in
theorem k_valFull {l : Launch} {G : XG} {h : XH} {b cl d : Nat} {x : Int64} (B : VA h b cl) (hc0 : hi h b 1 = nI 600) : XC l G xEX10_add d [.ref b, .long x] h (fun v h2 => h = h2 ∧ v = some (.int (-1))) := by
  obtain ⟨hb, kb, rb, hcl, kcl, ncl, hm⟩ := B
  refine XC.virt xvX10_add (Nat.le_of_ble_eq_true rfl) ?_
  refine XS.go (s_aloadn rfl rfl rfl) ?_
  refine XS.go (s_geti rfl xf10_15 (by assumption) (by assumption) (by decide) rfl) ?_
  rw [hc0]
  refine XS.go (s_if_lt_f (tgt := 19) rfl rfl (nI_pos (by omega))) ?_
  refine XS.go (s_aloadn rfl rfl rfl) ?_
  refine XS.go (s_geti rfl xf10_15 (by assumption) (by assumption) (by decide) rfl) ?_
  refine XS.go (s_aloadn rfl rfl rfl) ?_
  refine XS.go (s_getr rfl xf10_9 (by assumption) (by assumption) (by decide) rfl (by assumption)) ?_
  rw [show hi h b 1 = nI 600 from hc0]
  refine XS.go (s_alen rfl (by assumption) (by rw [kcl]; decide)) ?_
  refine XS.go (s_icmp_lt_f (tgt := 21) rfl rfl (show ¬ nI 600 < nI (hn h cl) by rw [ncl]; exact nI_nlt (Nat.le_refl _) (by decide))) ?_
  refine XS.go (s_iconst (v := (-1)) rfl rfl) ?_
  refine XR.reti rfl rfl (fun hret => ⟨_, hret, ?_⟩)
  exact ⟨rfl, rfl⟩
set_option maxRecDepth 20000 in
theorem k_takeAll {l : Launch} {G : XG} {h : XH} {b cl d : Nat} (B : VA h b cl) : XC l G xEX10_takeAll d [.ref b] h (fun v h2 => h2 = hsi h b 1 0 ∧ v = some (.int (hi h b 1))) := by
  obtain ⟨hb, kb, rb, hcl, kcl, ncl, hm⟩ := B
  refine XC.virt xvX10_takeAll (Nat.le_of_ble_eq_true rfl) ?_
  refine XS.go (s_aloadn rfl rfl rfl) ?_
  refine XS.go (s_geti rfl xf10_15 (by assumption) (by assumption) (by decide) rfl) ?_
  refine XS.go (s_istoren rfl rfl (Nat.le_of_ble_eq_true rfl)) ?_
  refine XS.go (s_aloadn rfl rfl rfl) ?_
  refine XS.go (s_iconst (v := 0) rfl rfl) ?_
  refine XS.go (s_puti rfl xf10_15 (by assumption) (by assumption) (by decide) rfl (Or.inl rfl)) ?_
  refine XS.go (s_iloadn rfl rfl rfl) ?_
  refine XR.reti rfl rfl (fun hret => ⟨_, hret, ?_⟩)
  exact ⟨rfl, rfl⟩
def vat (f : Nat → Int64) (i : Int32) : Int64 := if 0 ≤ i ∧ i < 600 then f i.toNatClampNeg else 0
set_option maxRecDepth 20000 in
theorem k_valAt {l : Launch} {G : XG} {h : XH} {b cl d : Nat} {i : Int32} (B : VA h b cl) : XC l G xEX10_at d [.ref b, .int i] h (fun v h2 => h = h2 ∧ v = some (.long (vat (hj h cl) i))) := by
  obtain ⟨hb, kb, rb, hcl, kcl, ncl, hm⟩ := B
  refine XC.virt xvX10_at (Nat.le_of_ble_eq_true rfl) ?_
  refine XS.go (s_iloadn rfl rfl rfl) ?_
  refine r_if_lt (tgt := 22) rfl rfl (fun qc1 => ?_) (fun qc1 => ?_)
  · skip
    refine XS.go (s_lconst (v := 0) rfl rfl) ?_
    refine XR.retl rfl rfl (fun hret => ⟨_, hret, ?_⟩)
    refine ⟨rfl, ?_⟩
    simp only [vat, if_neg (show ¬ (0 ≤ i ∧ i < 600) from fun z => absurd z.1 (Int32.not_le.mpr qc1))]
  · skip
    refine XS.go (s_iloadn rfl rfl rfl) ?_
    refine XS.go (s_aloadn rfl rfl rfl) ?_
    refine XS.go (s_getr rfl xf10_9 (by assumption) (by assumption) (by decide) rfl (by assumption)) ?_
    refine XS.go (s_alen rfl (by assumption) (by rw [kcl]; decide)) ?_
    refine r_icmp_ge (tgt := 22) rfl rfl (fun qc10 => ?_) (fun qc10 => ?_)
    · skip
      refine XS.go (s_lconst (v := 0) rfl rfl) ?_
      refine XR.retl rfl rfl (fun hret => ⟨_, hret, ?_⟩)
      refine ⟨rfl, ?_⟩
      simp only [vat, if_neg (show ¬ (0 ≤ i ∧ i < 600) from fun z => absurd z.2 (Int32.not_lt.mpr (by rw [ncl] at qc10; exact qc10)))]
    · skip
      refine XS.go (s_aloadn rfl rfl rfl) ?_
      refine XS.go (s_getr rfl xf10_9 (by assumption) (by assumption) (by decide) rfl (by assumption)) ?_
      refine XS.go (s_iloadn rfl rfl rfl) ?_
      refine XS.go (s_lald rfl (by assumption) (by assumption) (in_of (N := 600) ncl (by decide) qc1 (by rw [← ncl]; exact qc10))) ?_
      refine XS.go (s_goto (tgt := 23) rfl rfl) ?_
      refine XR.retl rfl rfl (fun hret => ⟨_, hret, ?_⟩)
      refine ⟨rfl, ?_⟩
      simp only [vat, if_pos (show 0 ≤ i ∧ i < 600 from ⟨Int32.not_lt.mp qc1, Int32.not_le.mp (by rw [ncl] at qc10; exact qc10)⟩)]
