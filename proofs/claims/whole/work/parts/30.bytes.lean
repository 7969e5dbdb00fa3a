/-! Bytes: a row of 4000 bytes -/
def oct (f : Nat → Int32) (i : Int32) : Int32 := if 0 ≤ i ∧ i < 4000 then f i.toNatClampNeg &&& 255 else 0
theorem in_of {i : Int32} {n N : Nat} (hn' : n = N) (hN : N < 2 ^ 31) (h0 : ¬ i < 0) (h1 : ¬ nI N ≤ i) : vp_in i n := by
  subst hn'
  rw [vp_in_iff]
  have a : ¬ i.toInt < (0 : Int32).toInt := fun z => h0 (Int32.lt_iff_toInt_lt.mpr z)
  have b : ¬ (nI n).toInt ≤ i.toInt := fun z => h1 (Int32.le_iff_toInt_le.mpr z)
  rw [nI_toInt hN] at b
  have e0 : (0 : Int32).toInt = 0 := rfl
  rw [e0] at a
  omega
set_option maxRecDepth 20000 in
theorem k_octet {l : Launch} {G : XG} {h : XH} {b cl d : Nat} {i : Int32} (hb : b < hz h) (kb : hk h b = 1) (rb : hr h b 0 = some cl) (hcl : cl < hz h) (kcl : hk h cl = 102) (ncl : hn h cl = 4000) : XC l G xEX1_octet d [.ref b, .int i] h (fun v h2 => h2 = h ∧ v = some (.int (oct (hi h cl) i))) := by
  refine XC.virt xvX1_octet (Nat.le_of_ble_eq_true rfl) ?_
  refine XS.go (s_iloadn rfl rfl rfl) ?_
  refine r_if_lt (tgt := 26) rfl rfl (fun c1 => ?_) (fun c1 => ?_)
  · skip
    refine XS.go (s_iconst (v := 0) rfl rfl) ?_
    refine XR.reti rfl rfl (fun hr => ⟨_, hr, ?_⟩)
    refine ⟨rfl, ?_⟩
    have z : ¬ (0 ≤ i ∧ i < 4000) := fun z => absurd z.1 (Int32.not_le.mpr c1)
    simp only [oct, if_neg z]
  · skip
    refine XS.go (s_iloadn rfl rfl rfl) ?_
    refine XS.go (s_aloadn rfl rfl rfl) ?_
    refine XS.go (s_getr rfl xf1_9 (by assumption) (by assumption) (by decide) rfl (by assumption)) ?_
    refine XS.go (s_alen rfl (by assumption) (by rw [kcl]; decide)) ?_
    refine r_icmp_ge (tgt := 26) rfl rfl (fun c10 => ?_) (fun c10 => ?_)
    · skip
      refine XS.go (s_iconst (v := 0) rfl rfl) ?_
      refine XR.reti rfl rfl (fun hr => ⟨_, hr, ?_⟩)
      refine ⟨rfl, ?_⟩
      have z : ¬ (0 ≤ i ∧ i < 4000) := fun z => absurd z.2 (Int32.not_lt.mpr (by rw [ncl] at c10; exact c10))
      simp only [oct, if_neg z]
    · skip
      refine XS.go (s_aloadn rfl rfl rfl) ?_
      refine XS.go (s_getr rfl xf1_9 (by assumption) (by assumption) (by decide) rfl (by assumption)) ?_
      refine XS.go (s_iloadn rfl rfl rfl) ?_
      refine XS.go (s_bald rfl (by assumption) (by assumption) (in_of (N := 4000) ncl (by decide) c1 (by rw [← ncl]; exact c10))) ?_
      refine XS.go (s_sipush (v := 255) rfl rfl) ?_
      refine XS.go (s_iand rfl) ?_
      refine XS.go (s_goto (tgt := 27) rfl rfl) ?_
      refine XR.reti rfl rfl (fun hr => ⟨_, hr, ?_⟩)
      refine ⟨rfl, ?_⟩
      have z : 0 ≤ i ∧ i < 4000 := ⟨Int32.not_lt.mp c1, Int32.not_le.mp (by rw [ncl] at c10; exact c10)⟩
      simp only [oct, if_pos z]
