/-! Constructors: what they make -/
def KP (h h2 : XH) (n : Nat) : Prop := ∀ b, b < n → hk h2 b = hk h b ∧ hn h2 b = hn h b ∧ (∀ j, hi h2 b j = hi h b j) ∧ (∀ j, hj h2 b j = hj h b j) ∧ ∀ j, hr h2 b j = hr h b j
theorem KP.rf {h : XH} {n : Nat} : KP h h n := fun _ _ => ⟨rfl, rfl, fun _ => rfl, fun _ => rfl, fun _ => rfl⟩
theorem KP.tr {h h2 h3 : XH} {n : Nat} (a : KP h h2 n) (b : KP h2 h3 n) : KP h h3 n := fun z hz' => by
  obtain ⟨a1, a2, a3, a4, a5⟩ := a z hz'
  obtain ⟨b1, b2, b3, b4, b5⟩ := b z hz'
  exact ⟨b1.trans a1, b2.trans a2, fun j => (b3 j).trans (a3 j), fun j => (b4 j).trans (a4 j), fun j => (b5 j).trans (a5 j)⟩
theorem KP.le {h h2 : XH} {n m : Nat} (a : KP h h2 n) (hm : m ≤ n) : KP h h2 m := fun z hz' => a z (by omega)
theorem KP.si {h : XH} {n a k : Nat} {v : Int32} (ha : n ≤ a) : KP h (hsi h a k v) n := fun z hz' => ho_si z (by omega)
theorem KP.sj {h : XH} {n a k : Nat} {v : Int64} (ha : n ≤ a) : KP h (hsj h a k v) n := fun z hz' => ho_sj z (by omega)
theorem KP.sr {h : XH} {n a k : Nat} {v : Option Nat} (ha : n ≤ a) : KP h (hsr h a k v) n := fun z hz' => ho_sr z (by omega)
theorem KP.new {h : XH} {n kind m : Nat} (ha : n ≤ hz h) : KP h (hnew h kind m) n := fun z hz' => ho_new z (by omega)
theorem KP.rr {h : XH} {n a : Nat} {f : Nat → Option Nat} (ha : n ≤ a) : KP h (hrr h a f) n := fun z hz' => ⟨rfl, rfl, fun _ => rfl, fun _ => rfl, fun _ => by rw [hr_hrr_ne (by omega)]⟩
theorem KP.fRes {h : XH} {n f : Nat} {x y : Int64} (ha : n ≤ f) : KP h (fRes h f x y) n := by
  unfold fRes
  exact (KP.sj ha).tr ((KP.sj ha).tr ((KP.si ha).tr ((KP.si ha).tr ((KP.si ha).tr ((KP.si ha).tr ((KP.si ha).tr ((KP.si ha).tr (KP.sj ha))))))))
theorem DF.keep {h h2 : XH} {a F LN n : Nat} (D : DF h a F LN) (K : KP h h2 n) (hn' : a + 4 + F ≤ n) (hle : n ≤ hz h2) (hm : hz h2 ≤ 1000000) : DF h2 a F LN := by
  obtain ⟨d1, d2, d3, d4, d5, d6, d7, d8, d9, d10, d11, d12, d13, d14, d15⟩ := D
  have e0 := K a (by omega)
  have e1 := K (a + 1) (by omega)
  have e2 := K (a + 2 + F) (by omega)
  have e3 := K (a + 3 + F) (by omega)
  refine ⟨by omega, hm, d3, d4, by rw [e0.1]; exact d5, by rw [e0.2.2.2.2]; exact d6, by rw [e1.1]; exact d7, by rw [e1.2.1]; exact d8, fun i hi' => ?_, by rw [e0.2.2.2.2]; exact d10, by rw [e2.1]; exact d11, by rw [e2.2.1]; exact d12, by rw [e0.2.2.2.2]; exact d13, by rw [e3.1]; exact d14, by rw [e3.2.1]; exact d15⟩
  have e4 := K (a + 2 + i) (by omega)
  exact ⟨by rw [e1.2.2.2.2]; exact (d9 i hi').1, by rw [e4.1]; exact (d9 i hi').2⟩
set_option maxRecDepth 20000 in
theorem k_fInit {l : Launch} {G : XG} {h : XH} {f d : Nat} (hf : f < hz h) (kf : hk h f = 3) : XC l G xEX3_init (d + 1) [.ref f] h (fun v h2 => h2 = fRes h f 0 0 ∧ v = none) := by
  refine XC.init xnX3_init (Nat.le_of_ble_eq_true rfl) ?_
  refine XS.go (s_aloadn rfl rfl rfl) ?_
  refine XS.go (s_objInit rfl (lg_1 119 rfl rfl) (lg_1 33 rfl rfl) (lg_1 34 rfl rfl) (by omega) (Nat.le_of_ble_eq_true rfl)) ?_
  refine XS.go (s_aloadn rfl rfl rfl) ?_
  refine XS.go (s_lconst (v := 0) rfl rfl) ?_
  refine XS.go (s_putj rfl xf3_9 (by assumption) (by assumption) (by decide) rfl (Or.inl rfl)) ?_
  refine XS.go (s_aloadn rfl rfl rfl) ?_
  refine XS.go (s_lconst (v := 0) rfl rfl) ?_
  refine XS.go (s_putj rfl xf3_15 (by assumption) (by assumption) (by decide) rfl (Or.inl rfl)) ?_
  refine XS.go (s_aloadn rfl rfl rfl) ?_
  refine XS.go (s_iconst (v := (-1)) rfl rfl) ?_
  refine XS.go (s_puti rfl xf3_18 (by assumption) (by assumption) (by decide) rfl (Or.inl rfl)) ?_
  refine XS.go (s_aloadn rfl rfl rfl) ?_
  refine XS.go (s_iconst (v := (-1)) rfl rfl) ?_
  refine XS.go (s_puti rfl xf3_22 (by assumption) (by assumption) (by decide) rfl (Or.inl rfl)) ?_
  refine XS.go (s_aloadn rfl rfl rfl) ?_
  refine XS.go (s_iconst (v := 0) rfl rfl) ?_
  refine XS.go (s_puti rfl xf3_25 (by assumption) (by assumption) (by decide) rfl (Or.inl rfl)) ?_
  refine XS.go (s_aloadn rfl rfl rfl) ?_
  refine XS.go (s_iconst (v := (-1)) rfl rfl) ?_
  refine XS.go (s_puti rfl xf3_28 (by assumption) (by assumption) (by decide) rfl (Or.inl rfl)) ?_
  refine XS.go (s_aloadn rfl rfl rfl) ?_
  refine XS.go (s_iconst (v := 0) rfl rfl) ?_
  refine XS.go (s_puti rfl xf3_31 (by assumption) (by assumption) (by decide) rfl (Or.inl rfl)) ?_
  refine XS.go (s_aloadn rfl rfl rfl) ?_
  refine XS.go (s_iconst (v := 0) rfl rfl) ?_
  refine XS.go (s_putz rfl xf3_34 (by assumption) (by assumption) (by decide) rfl (Or.inl rfl) (by decide)) ?_
  refine XS.go (s_aloadn rfl rfl rfl) ?_
  refine XS.go (s_lconst (v := 0) rfl rfl) ?_
  refine XS.go (s_putj rfl xf3_38 (by assumption) (by assumption) (by decide) rfl (Or.inl rfl)) ?_
  refine XR.retv rfl rfl (fun hret => ⟨_, hret, ?_⟩)
  exact ⟨rfl, rfl⟩
set_option maxRecDepth 20000 in
theorem k_bInit {l : Launch} {G : XG} {h : XH} {b d : Nat} (hb : b < hz h) (kb : hk h b = 1) (hm : hz h < 1000000) : XC l G xEX1_init (d + 1) [.ref b] h (fun v h2 => h2 = hsi (hsr (hnew h 102 4000) b 0 (some (hz h))) b 1 0 ∧ v = none) := by
  refine XC.init xnX1_init (Nat.le_of_ble_eq_true rfl) ?_
  refine XS.go (s_aloadn rfl rfl rfl) ?_
  refine XS.go (s_objInit rfl (lg_1 40 rfl rfl) (lg_1 33 rfl rfl) (lg_1 34 rfl rfl) (by omega) (Nat.le_of_ble_eq_true rfl)) ?_
  refine XS.go (s_aloadn rfl rfl rfl) ?_
  refine XS.go (s_sipush (v := 4000) rfl rfl) ?_
  refine XS.go (s_newb rfl (by decide) rfl (by decide) (by assumption)) ?_
  refine XS.go (s_putr rfl xf1_9 (by first | exact Nat.lt_succ_of_lt hb | exact (ho_new b (Nat.ne_of_lt hb)).1.trans kb) (by first | exact Nat.lt_succ_of_lt hb | exact (ho_new b (Nat.ne_of_lt hb)).1.trans kb) (by decide) rfl (Or.inr ⟨rfl, rfl⟩)) ?_
  refine XS.go (s_aloadn rfl rfl rfl) ?_
  refine XS.go (s_iconst (v := 0) rfl rfl) ?_
  refine XS.go (s_puti rfl xf1_15 (by first | exact Nat.lt_succ_of_lt hb | exact (ho_new b (Nat.ne_of_lt hb)).1.trans kb) (by first | exact Nat.lt_succ_of_lt hb | exact (ho_new b (Nat.ne_of_lt hb)).1.trans kb) (by decide) rfl (Or.inl rfl)) ?_
  refine XR.retv rfl rfl (fun hret => ⟨_, hret, ?_⟩)
  exact ⟨rfl, rfl⟩
set_option maxRecDepth 20000 in
theorem k_vInit {l : Launch} {G : XG} {h : XH} {b d : Nat} (hb : b < hz h) (kb : hk h b = 10) (hm : hz h < 1000000) : XC l G xEX10_init (d + 1) [.ref b] h (fun v h2 => h2 = hsi (hsr (hnew h 101 600) b 0 (some (hz h))) b 1 0 ∧ v = none) := by
  refine XC.init xnX10_init (Nat.le_of_ble_eq_true rfl) ?_
  refine XS.go (s_aloadn rfl rfl rfl) ?_
  refine XS.go (s_objInit rfl (lg_1 58 rfl rfl) (lg_1 33 rfl rfl) (lg_1 34 rfl rfl) (by omega) (Nat.le_of_ble_eq_true rfl)) ?_
  refine XS.go (s_aloadn rfl rfl rfl) ?_
  refine XS.go (s_sipush (v := 600) rfl rfl) ?_
  refine XS.go (s_newj rfl (by decide) rfl (by decide) (by assumption)) ?_
  refine XS.go (s_putr rfl xf10_9 (by first | exact Nat.lt_succ_of_lt hb | exact (ho_new b (Nat.ne_of_lt hb)).1.trans kb) (by first | exact Nat.lt_succ_of_lt hb | exact (ho_new b (Nat.ne_of_lt hb)).1.trans kb) (by decide) rfl (Or.inr ⟨rfl, rfl⟩)) ?_
  refine XS.go (s_aloadn rfl rfl rfl) ?_
  refine XS.go (s_iconst (v := 0) rfl rfl) ?_
  refine XS.go (s_puti rfl xf10_15 (by first | exact Nat.lt_succ_of_lt hb | exact (ho_new b (Nat.ne_of_lt hb)).1.trans kb) (by first | exact Nat.lt_succ_of_lt hb | exact (ho_new b (Nat.ne_of_lt hb)).1.trans kb) (by decide) rfl (Or.inl rfl)) ?_
  refine XR.retv rfl rfl (fun hret => ⟨_, hret, ?_⟩)
  exact ⟨rfl, rfl⟩
/-- behind m turns of the loop over the fields of a new definition -/
def DL (h0 h : XH) (a F m : Nat) (so nu : Int32) : Prop := hz h = a + 2 + m ∧ hw h = hw h0 + F + 9 * m ∧ KP h0 h a ∧ hk h a = 2 ∧ hr h a 2 = some (a + 1) ∧ hk h (a + 1) = 104 ∧ hn h (a + 1) = F ∧ (∀ i, i < m → hr h (a + 1) i = some (a + 2 + i) ∧ hk h (a + 2 + i) = 3) ∧ hi h a 0 = so ∧ hi h a 1 = nu ∧ hi h a 3 = 0
theorem DL.step {h0 h : XH} {a F m : Nat} {so nu : Int32} (D : DL h0 h a F m so nu) : DL h0 (hrr (fRes (hnew h 3 9) (hz h) 0 0) (a + 1) (va_up (hr (fRes (hnew h 3 9) (hz h) 0 0) (a + 1)) m (some (hz h)))) a F (m + 1) so nu := by
  obtain ⟨d1, d2, d3, d4, d5, d6, d7, d8, d9, d10, d11⟩ := D
  have hs : ∀ b, b < hz h → hk (hnew h 3 9) b = hk h b ∧ hn (hnew h 3 9) b = hn h b ∧ (∀ j, hi (hnew h 3 9) b j = hi h b j) ∧ (∀ j, hj (hnew h 3 9) b j = hj h b j) ∧ ∀ j, hr (hnew h 3 9) b j = hr h b j := fun b hb => ho_new b (Nat.ne_of_lt hb)
  have hf : ∀ b, b < hz h → ∀ j, hi (fRes (hnew h 3 9) (hz h) 0 0) b j = hi h b j := fun b hb j => by
    have := (KP.fRes (h := hnew h 3 9) (n := hz h) (f := hz h) (x := 0) (y := 0) (Nat.le_refl _)) b hb
    rw [this.2.2.1 j]; exact (hs b hb).2.2.1 j
  refine ⟨by show hz h + 1 = _; omega, by show hw h + 9 = _; omega, d3.tr ((KP.new (by omega)).tr ((KP.fRes (by omega)).tr (KP.rr (by omega)))), (hs a (by omega)).1.trans d4, ?_, (hs (a + 1) (by omega)).1.trans d6, (hs (a + 1) (by omega)).2.1.trans d7, fun i hi' => ⟨?_, ?_⟩, (hf a (by omega) 0).trans d9, (hf a (by omega) 1).trans d10, (hf a (by omega) 3).trans d11⟩
  · rw [hr_hrr_ne (by omega)]
    exact ((hs a (by omega)).2.2.2.2 2).trans d5
  · rw [hr_hrr_eq]
    unfold va_up
    by_cases e : i = m
    · rw [if_pos e, e, d1]
    · rw [if_neg e]
      exact ((hs (a + 1) (by omega)).2.2.2.2 i).trans (d8 i (by omega)).1
  · by_cases e : i = m
    · show hk (hnew h 3 9) (a + 2 + i) = 3
      rw [e, ← d1]; exact hnew_k
    · exact (hs (a + 2 + i) (by omega)).1.trans (d8 i (by omega)).2
set_option maxRecDepth 20000 in
theorem k_dInit_loop {l : Launch} {G : XG} {h0 : XH} {a F LN d : Nat} {so nu : Int32} {P : XCfg → Prop} (hF : F ≤ 16) (hm : a + 4 + F ≤ 1000000) (kk : ∀ h, DL h0 h a F F so nu → XR l G xEX2_init (d + 2) (90, [some (.ref a), some (.int so), some (.int nu), some (.int (nI F)), some (.int (nI F))], [], h) P) : ∀ (n m : Nat) (h : XH), m + n = F → DL h0 h a F m so nu → XR l G xEX2_init (d + 2) (60, [some (.ref a), some (.int so), some (.int nu), some (.int (nI F)), some (.int (nI m))], [], h) P := by
  intro n
  induction n with
  | zero =>
    intro m h hmk D
    have e : m = F := by omega
    subst e
    have D9 := D
    obtain ⟨d1, d2, d3, d4, d5, d6, d7, d8, d9, d10, d11⟩ := D
    refine XS.go (s_iload rfl rfl) ?_
    refine XS.go (s_aloadn rfl rfl rfl) ?_
    refine XS.go (s_getr rfl xf2_42 (by first | assumption | omega) (by first | assumption | omega) (by decide) rfl (by first | assumption | omega)) ?_
    refine XS.go (s_alen rfl (by first | assumption | omega) (by rw [d6]; decide)) ?_
    refine XS.go (s_icmp_ge_t (tgt := 90) rfl rfl (show nI (hn h (a + 1)) ≤ nI m by rw [d7]; exact nI_le (Nat.le_refl _) (by omega))) ?_
    exact kk h D9
  | succ n ih =>
    intro m h hmk D
    have D9 := D
    obtain ⟨d1, d2, d3, d4, d5, d6, d7, d8, d9, d10, d11⟩ := D
    refine XS.go (s_iload rfl rfl) ?_
    refine XS.go (s_aloadn rfl rfl rfl) ?_
    refine XS.go (s_getr rfl xf2_42 (by first | assumption | omega) (by first | assumption | omega) (by decide) rfl (by first | assumption | omega)) ?_
    refine XS.go (s_alen rfl (by first | assumption | omega) (by rw [d6]; decide)) ?_
    refine XS.go (s_icmp_ge_f (tgt := 90) rfl rfl (show ¬ nI (hn h (a + 1)) ≤ nI m by rw [d7]; exact nI_ge (by omega) (by omega))) ?_
    refine XS.go (s_aloadn rfl rfl rfl) ?_
    refine XS.go (s_getr rfl xf2_42 (by first | assumption | omega) (by first | assumption | omega) (by decide) rfl (by first | assumption | omega)) ?_
    refine XS.go (s_iload rfl rfl) ?_
    refine XS.go (s_new (ci := 3) rfl (lg_1 113 rfl rfl) (by decide) rfl (by first | assumption | omega)) ?_
    refine XS.go (s_dup rfl rfl) ?_
    refine r_callin rfl xnX3_init rfl (List.mem_of_getElem? (i := 4) rfl) (k_fInit (h := hnew h 3 9) (f := hz h) (d := d) (Nat.lt_succ_self _) hnew_k) rfl rfl (by omega) (by decide) (Nat.le_of_ble_eq_true rfl) ?_
    rintro _ _ ⟨rfl, rfl⟩
    refine XS.go (t_aast104 rfl (by first | omega | (show _ < hz h + 1; omega) | exact hnew_k | exact (ho_new _ (by omega)).1.trans d6) (by first | omega | (show _ < hz h + 1; omega) | exact hnew_k | exact (ho_new _ (by omega)).1.trans d6) (show vp_in (nI m) (hn (hnew h 3 9) (a + 1)) from in_nI ((ho_new (a + 1) (by omega)).2.1.trans d7) (by omega) (by omega)) (by first | omega | (show _ < hz h + 1; omega) | exact hnew_k | exact (ho_new _ (by omega)).1.trans d6) (by first | omega | (show _ < hz h + 1; omega) | exact hnew_k | exact (ho_new _ (by omega)).1.trans d6)) ?_
    rw [nI_clamp (by omega)]
    refine XS.go (s_inc rfl rfl (Nat.le_of_ble_eq_true rfl)) ?_
    refine XS.go (s_goto (tgt := 60) rfl rfl) ?_
    rw [nI_1]
    exact ih (m + 1) _ (by omega) D9.step
