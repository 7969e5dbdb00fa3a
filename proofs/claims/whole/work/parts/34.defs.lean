/-! Fields, definitions, groups, schemas: where their cells lie -/
/-- a definition at a, of at most F fields, with LN leaves: its array of fields at a + 1, the fields from a + 2 on, the leaves' two arrays behind them -/
def DF (h : XH) (a F LN : Nat) : Prop := a + 4 + F ≤ hz h ∧ hz h ≤ 1000000 ∧ F ≤ 16 ∧ LN ≤ 128 ∧ hk h a = 2 ∧ hr h a 2 = some (a + 1) ∧ hk h (a + 1) = 104 ∧ hn h (a + 1) = F ∧ (∀ i, i < F → hr h (a + 1) i = some (a + 2 + i) ∧ hk h (a + 2 + i) = 3) ∧ hr h a 9 = some (a + 2 + F) ∧ hk h (a + 2 + F) = 100 ∧ hn h (a + 2 + F) = LN ∧ hr h a 10 = some (a + 3 + F) ∧ hk h (a + 3 + F) = 100 ∧ hn h (a + 3 + F) = LN
def GR (h : XH) (g M F LN : Nat) : Prop := g + 2 + M * (F + 4) ≤ hz h ∧ hz h ≤ 1000000 ∧ M ≤ 16 ∧ hk h g = 4 ∧ hr h g 0 = some (g + 1) ∧ hk h (g + 1) = 105 ∧ hn h (g + 1) = M ∧ ∀ i, i < M → hr h (g + 1) i = some (g + 2 + i * (F + 4)) ∧ DF h (g + 2 + i * (F + 4)) F LN
def SC (h : XH) (s : Nat) : Prop := s + 616 ≤ hz h ∧ hz h ≤ 1000000 ∧ hk h s = 9 ∧ hr h s 0 = some (s + 1) ∧ hr h s 1 = some (s + 195) ∧ hr h s 2 = some (s + 517) ∧ hr h s 3 = some (s + 615) ∧ hk h (s + 615) = 105 ∧ hn h (s + 615) = 36 ∧ GR h (s + 1) 12 12 128 ∧ GR h (s + 195) 16 16 0 ∧ GR h (s + 517) 8 8 0
/-- Field.restart -/
def fRes (h : XH) (f : Nat) (x y : Int64) : XH := hsj (hsi (hsi (hsi (hsi (hsi (hsi (hsj (hsj h f 0 x) f 1 y) f 2 (-1)) f 3 (-1)) f 4 0) f 5 (-1)) f 6 0) f 7 0) f 8 0
set_option maxRecDepth 20000 in
theorem k_fRestart {l : Launch} {G : XG} {h : XH} {f d : Nat} {x y : Int64} (hf : f < hz h) (kf : hk h f = 3) : XC l G xEX3_restart d [.ref f, .long x, .long y] h (fun v h2 => h2 = fRes h f x y ∧ v = none) := by
  refine XC.virt xvX3_restart (Nat.le_of_ble_eq_true rfl) ?_
  refine XS.go (s_aloadn rfl rfl rfl) ?_
  refine XS.go (s_lloadn rfl rfl rfl) ?_
  refine XS.go (s_putj rfl xf3_9 (by assumption) (by assumption) (by decide) rfl (Or.inl rfl)) ?_
  refine XS.go (s_aloadn rfl rfl rfl) ?_
  refine XS.go (s_lloadn rfl rfl rfl) ?_
  refine XS.go (s_putj rfl xf3_15 (by assumption) (by assumption) (by decide) rfl (Or.inl rfl)) ?_
  refine XS.go (s_aloadn rfl rfl rfl) ?_
  refine XS.go (s_iconst (v := (-1)) rfl rfl) ?_
  refine XS.go (s_puti rfl xf3_18 (by assumption) (by assumption) (by decide) rfl (Or.inl rfl)) ?_
  refine XS.go (s_aloadn rfl rfl rfl) ?_
  refine XS.go (s_iconst (v := (-1)) rfl rfl) ?_
  refine XS.go (s_puti rfl xf3_22 (by assumption) (by assumption) (by decide) rfl (Or.inl rfl)) ?_
  refine XS.go (s_aloadn rfl rfl rfl) ?_
  refine XS.go (s_iconst (v := 0) rfl rfl) ?_
  refine XS.go (s_puti rfl xf3_25 (by assumption) (by assumption) (by decide) rfl (Or.inl rfl)) ?_
  refine XS.go (s_aloadn rfl rfl rfl) ?_
  refine XS.go (s_iconst (v := (-1)) rfl rfl) ?_
  refine XS.go (s_puti rfl xf3_28 (by assumption) (by assumption) (by decide) rfl (Or.inl rfl)) ?_
  refine XS.go (s_aloadn rfl rfl rfl) ?_
  refine XS.go (s_iconst (v := 0) rfl rfl) ?_
  refine XS.go (s_puti rfl xf3_31 (by assumption) (by assumption) (by decide) rfl (Or.inl rfl)) ?_
  refine XS.go (s_aloadn rfl rfl rfl) ?_
  refine XS.go (s_iconst (v := 0) rfl rfl) ?_
  refine XS.go (s_putz rfl xf3_34 (by assumption) (by assumption) (by decide) rfl (Or.inl rfl) (by decide)) ?_
  refine XS.go (s_aloadn rfl rfl rfl) ?_
  refine XS.go (s_lconst (v := 0) rfl rfl) ?_
  refine XS.go (s_putj rfl xf3_38 (by assumption) (by assumption) (by decide) rfl (Or.inl rfl)) ?_
  refine XR.retv rfl rfl (fun hret => ⟨_, hret, ?_⟩)
  exact ⟨rfl, rfl⟩
/-- Definition.restart -/
def dRes (h : XH) (a : Nat) (x y : Int64) : XH := hsi (hsi (hsi (hsi (hsi (hsj (hsj h a 4 x) a 5 y) a 3 0) a 6 0) a 7 1) a 8 0) a 11 0
set_option maxRecDepth 20000 in
theorem k_dRestart {l : Launch} {G : XG} {h : XH} {a d : Nat} {x y : Int64} (ha : a < hz h) (ka : hk h a = 2) : XC l G xEX2_restart d [.ref a, .long x, .long y] h (fun v h2 => h2 = dRes h a x y ∧ v = none) := by
  refine XC.virt xvX2_restart (Nat.le_of_ble_eq_true rfl) ?_
  refine XS.go (s_aloadn rfl rfl rfl) ?_
  refine XS.go (s_lloadn rfl rfl rfl) ?_
  refine XS.go (s_putj rfl xf2_15 (by assumption) (by assumption) (by decide) rfl (Or.inl rfl)) ?_
  refine XS.go (s_aloadn rfl rfl rfl) ?_
  refine XS.go (s_lloadn rfl rfl rfl) ?_
  refine XS.go (s_putj rfl xf2_19 (by assumption) (by assumption) (by decide) rfl (Or.inl rfl)) ?_
  refine XS.go (s_aloadn rfl rfl rfl) ?_
  refine XS.go (s_iconst (v := 0) rfl rfl) ?_
  refine XS.go (s_puti rfl xf2_9 (by assumption) (by assumption) (by decide) rfl (Or.inl rfl)) ?_
  refine XS.go (s_aloadn rfl rfl rfl) ?_
  refine XS.go (s_iconst (v := 0) rfl rfl) ?_
  refine XS.go (s_puti rfl xf2_22 (by assumption) (by assumption) (by decide) rfl (Or.inl rfl)) ?_
  refine XS.go (s_aloadn rfl rfl rfl) ?_
  refine XS.go (s_iconst (v := 1) rfl rfl) ?_
  refine XS.go (s_puti rfl xf2_25 (by assumption) (by assumption) (by decide) rfl (Or.inl rfl)) ?_
  refine XS.go (s_aloadn rfl rfl rfl) ?_
  refine XS.go (s_iconst (v := 0) rfl rfl) ?_
  refine XS.go (s_puti rfl xf2_28 (by assumption) (by assumption) (by decide) rfl (Or.inl rfl)) ?_
  refine XS.go (s_aloadn rfl rfl rfl) ?_
  refine XS.go (s_iconst (v := 0) rfl rfl) ?_
  refine XS.go (s_puti rfl xf2_31 (by assumption) (by assumption) (by decide) rfl (Or.inl rfl)) ?_
  refine XR.retv rfl rfl (fun hret => ⟨_, hret, ?_⟩)
  exact ⟨rfl, rfl⟩
def fAt (h : XH) (a F : Nat) (i : Int32) : Option Nat := if 0 ≤ i ∧ i < hi h a 3 ∧ i < nI F then some (a + 2 + i.toNatClampNeg) else none
theorem clamp_lt {i : Int32} {n : Nat} (hn' : n < 2 ^ 31) (h0 : ¬ i < 0) (h1 : ¬ nI n ≤ i) : i.toNatClampNeg < n := Nat.not_le.mp fun z => in_of (N := n) rfl hn' h0 h1 (Or.inr z)
set_option maxRecDepth 20000 in
theorem k_fieldAt {l : Launch} {G : XG} {h : XH} {a F LN d : Nat} {i : Int32} (D : DF h a F LN) : XC l G xEX2_fieldAt d [.ref a, .int i] h (fun v h2 => h = h2 ∧ v = some (va_rf (fAt h a F i))) := by
  obtain ⟨d1, d2, d3, d4, d5, d6, d7, d8, d9, d10, d11, d12, d13, d14, d15⟩ := D
  refine XC.virt xvX2_fieldAt (Nat.le_of_ble_eq_true rfl) ?_
  refine XS.go (s_iloadn rfl rfl rfl) ?_
  refine r_if_lt (tgt := 30) rfl rfl (fun qc1 => ?_) (fun qc1 => ?_)
  · skip
    refine XS.go (s_null rfl) ?_
    refine XR.reta (o := none) rfl rfl (fun hret => ⟨_, hret, ?_⟩)
    refine ⟨rfl, ?_⟩
    simp only [fAt, if_neg (show ¬ (0 ≤ i ∧ i < hi h a 3 ∧ i < nI F) from fun z => absurd z.1 (Int32.not_le.mpr qc1))]
  · skip
    refine XS.go (s_iloadn rfl rfl rfl) ?_
    refine XS.go (s_aloadn rfl rfl rfl) ?_
    refine XS.go (s_geti rfl xf2_9 (by first | assumption | (show _ < hz h; omega) | omega) (by first | assumption | (show _ < hz h; omega) | omega) (by decide) rfl) ?_
    refine r_icmp_ge (tgt := 30) rfl rfl (fun qc9 => ?_) (fun qc9 => ?_)
    · skip
      refine XS.go (s_null rfl) ?_
      refine XR.reta (o := none) rfl rfl (fun hret => ⟨_, hret, ?_⟩)
      refine ⟨rfl, ?_⟩
      simp only [fAt, if_neg (show ¬ (0 ≤ i ∧ i < hi h a 3 ∧ i < nI F) from fun z => absurd z.2.1 (Int32.not_lt.mpr qc9))]
    · skip
      refine XS.go (s_iloadn rfl rfl rfl) ?_
      refine XS.go (s_aloadn rfl rfl rfl) ?_
      refine XS.go (s_getr rfl xf2_42 (by first | assumption | (show _ < hz h; omega) | omega) (by first | assumption | (show _ < hz h; omega) | omega) (by decide) rfl (by first | assumption | (show _ < hz h; omega) | omega)) ?_
      refine XS.go (s_alen rfl (by first | assumption | (show _ < hz h; omega) | omega) (by rw [d7]; decide)) ?_
      refine r_icmp_ge (tgt := 30) rfl rfl (fun qc18 => ?_) (fun qc18 => ?_)
      · skip
        refine XS.go (s_null rfl) ?_
        refine XR.reta (o := none) rfl rfl (fun hret => ⟨_, hret, ?_⟩)
        refine ⟨rfl, ?_⟩
        simp only [fAt, if_neg (show ¬ (0 ≤ i ∧ i < hi h a 3 ∧ i < nI F) from fun z => absurd z.2.2 (Int32.not_lt.mpr (by rw [d8] at qc18; exact qc18)))]
      · skip
        refine XS.go (s_aloadn rfl rfl rfl) ?_
        refine XS.go (s_getr rfl xf2_42 (by first | assumption | (show _ < hz h; omega) | omega) (by first | assumption | (show _ < hz h; omega) | omega) (by decide) rfl (by first | assumption | (show _ < hz h; omega) | omega)) ?_
        refine XS.go (s_iloadn rfl rfl rfl) ?_
        refine XS.go (s_aald104 rfl (by first | assumption | (show _ < hz h; omega) | omega) (by first | assumption | (show _ < hz h; omega) | omega) (in_of (N := F) d8 (by omega) qc1 (by rw [← d8]; exact qc18))) ?_
        rw [(d9 _ (clamp_lt (n := F) (by omega) qc1 (by rw [← d8]; exact qc18))).1]
        refine XS.go (s_goto (tgt := 31) rfl rfl) ?_
        refine XR.reta (o := some (a + 2 + i.toNatClampNeg)) rfl rfl (fun hret => ⟨_, hret, ?_⟩)
        refine ⟨rfl, ?_⟩
        simp only [fAt, if_pos (show 0 ≤ i ∧ i < hi h a 3 ∧ i < nI F from ⟨Int32.not_lt.mp qc1, Int32.not_le.mp qc9, Int32.not_le.mp (by rw [d8] at qc18; exact qc18)⟩)]
