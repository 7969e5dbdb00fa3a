/-! Constructors: what they make -/
/-- the heap is forgotten but for what is said of it -/
theorem XR.gen {l : Launch} {G : XG} {q : xEnt} {d pc : Nat} {L : List (Option Value)} {st : List Value} {h0 : XH} {P : XCfg → Prop} (I : XH → Prop) (hI : I h0) (k : ∀ X, I X → XR l G q d (pc, L, st, X) P) : XR l G q d (pc, L, st, h0) P := k h0 hI
def KP (h h2 : XH) (n : Nat) : Prop := ∀ b, b < n → hk h2 b = hk h b ∧ hn h2 b = hn h b ∧ (∀ j, hi h2 b j = hi h b j) ∧ (∀ j, hj h2 b j = hj h b j) ∧ ∀ j, hr h2 b j = hr h b j
theorem KP.rf {h : XH} {n : Nat} : KP h h n := fun _ _ => ⟨rfl, rfl, fun _ => rfl, fun _ => rfl, fun _ => rfl⟩
theorem KP.tr {h h2 h3 : XH} {n : Nat} (a : KP h h2 n) (b : KP h2 h3 n) : KP h h3 n := fun z hz' => by
  obtain ⟨a1, a2, a3, a4, a5⟩ := a z hz'
  obtain ⟨b1, b2, b3, b4, b5⟩ := b z hz'
  exact ⟨b1.trans a1, b2.trans a2, fun j => (b3 j).trans (a3 j), fun j => (b4 j).trans (a4 j), fun j => (b5 j).trans (a5 j)⟩
theorem KP.le {h h2 : XH} {n m : Nat} (a : KP h h2 n) (hm : m ≤ n) : KP h h2 m := fun z hz' => a z (by omega)
theorem KP.si {h : XH} {n a k : Nat} {v : Int32} (ha : n ≤ a) : KP h (hsi h a k v) n := fun z hz' => ho_si z (by omega)
theorem KP.sj {h : XH} {n a k : Nat} {v : Int64} (ha : n ≤ a) : KP h (hsj h a k v) n := fun z hz' => ho_sj z (by omega)
theorem KP.sr {h : XH} {n a k : Nat} {v : Option Nat} (ha : n ≤ a) : KP h (hsr h a k v) n := fun z hz' => ho_sr z (by omega)
theorem KP.new {h : XH} {n kind m : Nat} (ha : n ≤ hz h) : KP h (hnew h kind m) n := fun z hz' => ho_new z (by omega)
theorem KP.rr {h : XH} {n a : Nat} {f : Nat → Option Nat} (ha : n ≤ a) : KP h (hrr h a f) n := fun z hz' => ⟨rfl, rfl, fun _ => rfl, fun _ => rfl, fun _ => by rw [hr_hrr_ne (by omega)]⟩
theorem KP.fr {h : XH} {n f : Nat} {x y : Int64} (ha : n ≤ f) : KP h (fRes h f x y) n := by
  unfold fRes
  exact (KP.sj ha).tr ((KP.sj ha).tr ((KP.si ha).tr ((KP.si ha).tr ((KP.si ha).tr ((KP.si ha).tr ((KP.si ha).tr ((KP.si ha).tr (KP.sj ha))))))))
theorem DF.keep {h h2 : XH} {a F LN n : Nat} (D : DF h a F LN) (K : KP h h2 n) (hn' : a + 4 + F ≤ n) (hle : n ≤ hz h2) (hm : hz h2 ≤ 1000000) : DF h2 a F LN := by
  obtain ⟨d1, d2, d3, d4, d5, d6, d7, d8, d9, d10, d11, d12, d13, d14, d15⟩ := D
  have e0 := K a (by omega)
  have e1 := K (a + 1) (by omega)
  have e2 := K (a + 2 + F) (by omega)
  have e3 := K (a + 3 + F) (by omega)
  refine ⟨by omega, hm, d3, d4, by rw [e0.1]; exact d5, by rw [e0.2.2.2.2]; exact d6, by rw [e1.1]; exact d7, by rw [e1.2.1]; exact d8, fun i hi' => ?_, by rw [e0.2.2.2.2]; exact d10, by rw [e2.1]; exact d11, by rw [e2.2.1]; exact d12, by rw [e0.2.2.2.2]; exact d13, by rw [e3.1]; exact d14, by rw [e3.2.1]; exact d15⟩
  have e4 := K (a + 2 + i) (by omega)
  exact ⟨by rw [e1.2.2.2.2]; exact (d9 i hi').1, by rw [e4.1]; exact (d9 i hi').2⟩
set_option maxRecDepth 20000 in
theorem k_fInit {l : Launch} {G : XG} {h : XH} {f d : Nat} (hf : f < hz h) (kf : hk h f = 3) : XC l G xEX3_init (d + 1) [.ref f] h (fun v h2 => h2 = fRes h f 0 0 ∧ v = none) := by
  refine XC.init xnX3_init (Nat.le_of_ble_eq_true rfl) ?_
  refine XS.go (s_aloadn rfl rfl rfl) ?_
  refine XS.go (s_objInit rfl (lg_1 119 rfl rfl) (lg_1 33 rfl rfl) (lg_1 34 rfl rfl) (by omega) (Nat.le_of_ble_eq_true rfl)) ?_
  refine XS.go (s_aloadn rfl rfl rfl) ?_
  refine XS.go (s_lconst (v := 0) rfl rfl) ?_
  refine XS.go (s_putj rfl xf3_9 (by assumption) (by assumption) (by decide) rfl (Or.inl rfl)) ?_
  refine XS.go (s_aloadn rfl rfl rfl) ?_
  refine XS.go (s_lconst (v := 0) rfl rfl) ?_
  refine XS.go (s_putj rfl xf3_15 (by assumption) (by assumption) (by decide) rfl (Or.inl rfl)) ?_
  refine XS.go (s_aloadn rfl rfl rfl) ?_
  refine XS.go (s_iconst (v := (-1)) rfl rfl) ?_
  refine XS.go (s_puti rfl xf3_18 (by assumption) (by assumption) (by decide) rfl (Or.inl rfl)) ?_
  refine XS.go (s_aloadn rfl rfl rfl) ?_
  refine XS.go (s_iconst (v := (-1)) rfl rfl) ?_
  refine XS.go (s_puti rfl xf3_22 (by assumption) (by assumption) (by decide) rfl (Or.inl rfl)) ?_
  refine XS.go (s_aloadn rfl rfl rfl) ?_
  refine XS.go (s_iconst (v := 0) rfl rfl) ?_
  refine XS.go (s_puti rfl xf3_25 (by assumption) (by assumption) (by decide) rfl (Or.inl rfl)) ?_
  refine XS.go (s_aloadn rfl rfl rfl) ?_
  refine XS.go (s_iconst (v := (-1)) rfl rfl) ?_
  refine XS.go (s_puti rfl xf3_28 (by assumption) (by assumption) (by decide) rfl (Or.inl rfl)) ?_
  refine XS.go (s_aloadn rfl rfl rfl) ?_
  refine XS.go (s_iconst (v := 0) rfl rfl) ?_
  refine XS.go (s_puti rfl xf3_31 (by assumption) (by assumption) (by decide) rfl (Or.inl rfl)) ?_
  refine XS.go (s_aloadn rfl rfl rfl) ?_
  refine XS.go (s_iconst (v := 0) rfl rfl) ?_
  refine XS.go (s_putz rfl xf3_34 (by assumption) (by assumption) (by decide) rfl (Or.inl rfl) (by decide)) ?_
  refine XS.go (s_aloadn rfl rfl rfl) ?_
  refine XS.go (s_lconst (v := 0) rfl rfl) ?_
  refine XS.go (s_putj rfl xf3_38 (by assumption) (by assumption) (by decide) rfl (Or.inl rfl)) ?_
  refine XR.retv rfl rfl (fun hret => ⟨_, hret, ?_⟩)
  exact ⟨rfl, rfl⟩
set_option maxRecDepth 20000 in
theorem k_bInit {l : Launch} {G : XG} {h : XH} {b d : Nat} (hb : b < hz h) (kb : hk h b = 1) (hm : hz h < 1000000) : XC l G xEX1_init (d + 1) [.ref b] h (fun v h2 => h2 = hsi (hsr (hnew h 102 4000) b 0 (some (hz h))) b 1 0 ∧ v = none) := by
  refine XC.init xnX1_init (Nat.le_of_ble_eq_true rfl) ?_
  refine XS.go (s_aloadn rfl rfl rfl) ?_
  refine XS.go (s_objInit rfl (lg_1 40 rfl rfl) (lg_1 33 rfl rfl) (lg_1 34 rfl rfl) (by omega) (Nat.le_of_ble_eq_true rfl)) ?_
  refine XS.go (s_aloadn rfl rfl rfl) ?_
  refine XS.go (s_sipush (v := 4000) rfl rfl) ?_
  refine XS.go (s_newb (N := 4000) rfl (by decide) rfl (by decide) (by assumption)) ?_
  refine XS.go (s_putr rfl xf1_9 (by first | exact Nat.lt_succ_of_lt hb | exact (ho_new (kind := 102) (n := 4000) b (Nat.ne_of_lt hb)).1.trans kb) (by first | exact Nat.lt_succ_of_lt hb | exact (ho_new (kind := 102) (n := 4000) b (Nat.ne_of_lt hb)).1.trans kb) (by decide) rfl (Or.inr ⟨rfl, rfl⟩)) ?_
  refine XS.go (s_aloadn rfl rfl rfl) ?_
  refine XS.go (s_iconst (v := 0) rfl rfl) ?_
  refine XS.go (s_puti rfl xf1_15 (by first | exact Nat.lt_succ_of_lt hb | exact (ho_new (kind := 102) (n := 4000) b (Nat.ne_of_lt hb)).1.trans kb) (by first | exact Nat.lt_succ_of_lt hb | exact (ho_new (kind := 102) (n := 4000) b (Nat.ne_of_lt hb)).1.trans kb) (by decide) rfl (Or.inl rfl)) ?_
  refine XR.retv rfl rfl (fun hret => ⟨_, hret, ?_⟩)
  exact ⟨rfl, rfl⟩
set_option maxRecDepth 20000 in
theorem k_vInit {l : Launch} {G : XG} {h : XH} {b d : Nat} (hb : b < hz h) (kb : hk h b = 10) (hm : hz h < 1000000) : XC l G xEX10_init (d + 1) [.ref b] h (fun v h2 => h2 = hsi (hsr (hnew h 101 600) b 0 (some (hz h))) b 1 0 ∧ v = none) := by
  refine XC.init xnX10_init (Nat.le_of_ble_eq_true rfl) ?_
  refine XS.go (s_aloadn rfl rfl rfl) ?_
  refine XS.go (s_objInit rfl (lg_1 58 rfl rfl) (lg_1 33 rfl rfl) (lg_1 34 rfl rfl) (by omega) (Nat.le_of_ble_eq_true rfl)) ?_
  refine XS.go (s_aloadn rfl rfl rfl) ?_
  refine XS.go (s_sipush (v := 600) rfl rfl) ?_
  refine XS.go (s_newj (N := 600) rfl (by decide) rfl (by decide) (by assumption)) ?_
  refine XS.go (s_putr rfl xf10_9 (by first | exact Nat.lt_succ_of_lt hb | exact (ho_new (kind := 101) (n := 600) b (Nat.ne_of_lt hb)).1.trans kb) (by first | exact Nat.lt_succ_of_lt hb | exact (ho_new (kind := 101) (n := 600) b (Nat.ne_of_lt hb)).1.trans kb) (by decide) rfl (Or.inr ⟨rfl, rfl⟩)) ?_
  refine XS.go (s_aloadn rfl rfl rfl) ?_
  refine XS.go (s_iconst (v := 0) rfl rfl) ?_
  refine XS.go (s_puti rfl xf10_15 (by first | exact Nat.lt_succ_of_lt hb | exact (ho_new (kind := 101) (n := 600) b (Nat.ne_of_lt hb)).1.trans kb) (by first | exact Nat.lt_succ_of_lt hb | exact (ho_new (kind := 101) (n := 600) b (Nat.ne_of_lt hb)).1.trans kb) (by decide) rfl (Or.inl rfl)) ?_
  refine XR.retv rfl rfl (fun hret => ⟨_, hret, ?_⟩)
  exact ⟨rfl, rfl⟩
/-- behind m turns of the loop over the fields of a new definition -/
def DL (h0 h : XH) (a F m : Nat) (so nu : Int32) : Prop := hz h = a + 2 + m ∧ hw h = hw h0 + F + 9 * m ∧ KP h0 h a ∧ hk h a = 2 ∧ hr h a 2 = some (a + 1) ∧ hk h (a + 1) = 104 ∧ hn h (a + 1) = F ∧ (∀ i, i < m → hr h (a + 1) i = some (a + 2 + i) ∧ hk h (a + 2 + i) = 3) ∧ hi h a 0 = so ∧ hi h a 1 = nu ∧ hi h a 3 = 0
theorem DL.step {h0 h : XH} {a F m : Nat} {so nu : Int32} (D : DL h0 h a F m so nu) : DL h0 (hrr (fRes (hnew h 3 9) (hz h) 0 0) (a + 1) (va_up (hr (fRes (hnew h 3 9) (hz h) 0 0) (a + 1)) m (some (hz h)))) a F (m + 1) so nu := by
  obtain ⟨d1, d2, d3, d4, d5, d6, d7, d8, d9, d10, d11⟩ := D
  have hs : ∀ b, b < hz h → hk (hnew h 3 9) b = hk h b ∧ hn (hnew h 3 9) b = hn h b ∧ (∀ j, hi (hnew h 3 9) b j = hi h b j) ∧ (∀ j, hj (hnew h 3 9) b j = hj h b j) ∧ ∀ j, hr (hnew h 3 9) b j = hr h b j := fun b hb => ho_new b (Nat.ne_of_lt hb)
  have hf : ∀ b, b < hz h → ∀ j, hi (fRes (hnew h 3 9) (hz h) 0 0) b j = hi h b j := fun b hb j => by
    have := (KP.fr (h := hnew h 3 9) (n := hz h) (f := hz h) (x := 0) (y := 0) (Nat.le_refl _)) b hb
    rw [this.2.2.1 j]; exact (hs b hb).2.2.1 j
  refine ⟨by show hz h + 1 = _; omega, by show hw h + 9 = _; omega, d3.tr ((KP.new (by omega)).tr ((KP.fr (by omega)).tr (KP.rr (by omega)))), (hs a (by omega)).1.trans d4, ?_, (hs (a + 1) (by omega)).1.trans d6, (hs (a + 1) (by omega)).2.1.trans d7, fun i hi' => ⟨?_, ?_⟩, (hf a (by omega) 0).trans d9, (hf a (by omega) 1).trans d10, (hf a (by omega) 3).trans d11⟩
  · rw [hr_hrr_ne (by omega)]
    exact ((hs a (by omega)).2.2.2.2 2).trans d5
  · rw [hr_hrr_eq]
    unfold va_up
    by_cases e : i = m
    · rw [if_pos e, e, d1]
    · rw [if_neg e]
      exact ((hs (a + 1) (by omega)).2.2.2.2 i).trans (d8 i (by omega)).1
  · by_cases e : i = m
    · show hk (hnew h 3 9) (a + 2 + i) = 3
      rw [e, ← d1]; exact hnew_k
    · exact (hs (a + 2 + i) (by omega)).1.trans (d8 i (by omega)).2
set_option maxRecDepth 20000 in
theorem k_dInit_loop {l : Launch} {G : XG} {h0 : XH} {a F LN d : Nat} {so nu : Int32} {P : XCfg → Prop} (hF : F ≤ 16) (hm : a + 4 + F ≤ 1000000) (kk : ∀ h, DL h0 h a F F so nu → XR l G xEX2_init (d + 2) (90, [some (.ref a), some (.int so), some (.int nu), some (.int (nI F)), some (.int (nI F))], [], h) P) : ∀ (n m : Nat) (h : XH), m + n = F → DL h0 h a F m so nu → XR l G xEX2_init (d + 2) (60, [some (.ref a), some (.int so), some (.int nu), some (.int (nI F)), some (.int (nI m))], [], h) P := by
  intro n
  induction n with
  | zero =>
    intro m h hmk D
    have e : m = F := by omega
    subst e
    have D9 := D
    obtain ⟨d1, d2, d3, d4, d5, d6, d7, d8, d9, d10, d11⟩ := D
    refine XS.go (s_iload rfl rfl) ?_
    refine XS.go (s_aloadn rfl rfl rfl) ?_
    refine XS.go (s_getr rfl xf2_42 (by first | assumption | (show _ < hz h; omega) | omega) (by first | assumption | (show _ < hz h; omega) | omega) (by decide) rfl (by first | assumption | (show _ < hz h; omega) | omega)) ?_
    refine XS.go (s_alen rfl (by first | assumption | (show _ < hz h; omega) | omega) (by rw [d6]; decide)) ?_
    refine XS.go (s_icmp_ge_t (tgt := 90) rfl rfl (show nI (hn h (a + 1)) ≤ nI m by rw [d7]; exact nI_le (Nat.le_refl _) (by omega))) ?_
    exact kk h D9
  | succ n ih =>
    intro m h hmk D
    have D9 := D
    obtain ⟨d1, d2, d3, d4, d5, d6, d7, d8, d9, d10, d11⟩ := D
    refine XS.go (s_iload rfl rfl) ?_
    refine XS.go (s_aloadn rfl rfl rfl) ?_
    refine XS.go (s_getr rfl xf2_42 (by first | assumption | (show _ < hz h; omega) | omega) (by first | assumption | (show _ < hz h; omega) | omega) (by decide) rfl (by first | assumption | (show _ < hz h; omega) | omega)) ?_
    refine XS.go (s_alen rfl (by first | assumption | (show _ < hz h; omega) | omega) (by rw [d6]; decide)) ?_
    refine XS.go (s_icmp_ge_f (tgt := 90) rfl rfl (show ¬ nI (hn h (a + 1)) ≤ nI m by rw [d7]; exact nI_ge (by omega) (by omega))) ?_
    refine XS.go (s_aloadn rfl rfl rfl) ?_
    refine XS.go (s_getr rfl xf2_42 (by first | assumption | (show _ < hz h; omega) | omega) (by first | assumption | (show _ < hz h; omega) | omega) (by decide) rfl (by first | assumption | (show _ < hz h; omega) | omega)) ?_
    refine XS.go (s_iload rfl rfl) ?_
    refine XS.go (s_new (ci := 3) rfl (lg_1 113 rfl rfl) (by decide) rfl (by first | assumption | (show _ < hz h; omega) | omega)) ?_
    refine XS.go (s_dup rfl rfl) ?_
    refine r_callin rfl xnX3_init rfl (List.mem_of_getElem? (i := 4) rfl) (k_fInit (h := hnew h 3 9) (f := hz h) (d := d) (Nat.lt_succ_self _) hnew_k) rfl rfl (by omega) (by decide) (Nat.le_of_ble_eq_true rfl) ?_
    rintro _ _ ⟨rfl, rfl⟩
    refine XS.go (t_aast104 rfl (by first | omega | (show _ < hz h + 1; omega) | exact hnew_k (h := h) (kind := 3) (n := 9) | exact (ho_new (h := h) (kind := 3) (n := 9) (a + 1) (by omega)).1.trans d6) (by first | omega | (show _ < hz h + 1; omega) | exact hnew_k (h := h) (kind := 3) (n := 9) | exact (ho_new (h := h) (kind := 3) (n := 9) (a + 1) (by omega)).1.trans d6) (show vp_in (nI m) (hn (hnew h 3 9) (a + 1)) from in_nI ((ho_new (a + 1) (by omega)).2.1.trans d7) (by omega) (by omega)) (by first | omega | (show _ < hz h + 1; omega) | exact hnew_k (h := h) (kind := 3) (n := 9) | exact (ho_new (h := h) (kind := 3) (n := 9) (a + 1) (by omega)).1.trans d6) (by first | omega | (show _ < hz h + 1; omega) | exact hnew_k (h := h) (kind := 3) (n := 9) | exact (ho_new (h := h) (kind := 3) (n := 9) (a + 1) (by omega)).1.trans d6)) ?_
    rw [nI_clamp (by omega)]
    refine XS.go (s_inc rfl rfl (Nat.le_of_ble_eq_true rfl)) ?_
    refine XS.go (s_goto (tgt := 60) rfl rfl) ?_
    rw [nI_1]
    exact ih (m + 1) _ (by omega) D9.step
theorem hnew_at {h : XH} {b kind n : Nat} (hb : b < hz h) : hk (hnew h kind n) b = hk h b ∧ hn (hnew h kind n) b = hn h b ∧ (∀ j, hi (hnew h kind n) b j = hi h b j) ∧ (∀ j, hj (hnew h kind n) b j = hj h b j) ∧ ∀ j, hr (hnew h kind n) b j = hr h b j := ho_new b (Nat.ne_of_lt hb)
theorem hr_hsr_nk {h : XH} {a k j : Nat} {v : Option Nat} (e : j ≠ k) : hr (hsr h a k v) a j = hr h a j := by rw [hr_hsr, if_neg fun z => e z.2]
theorem hr_hsr_na {h : XH} {a b k j : Nat} {v : Option Nat} (e : b ≠ a) : hr (hsr h a k v) b j = hr h b j := by rw [hr_hsr, if_neg fun z => e z.1]
theorem hr_hsr_eq {h : XH} {a k : Nat} {v : Option Nat} : hr (hsr h a k v) a k = v := by rw [hr_hsr, if_pos ⟨rfl, rfl⟩]
theorem DL.fin {h0 h : XH} {a F LN : Nat} {so nu : Int32} (D : DL h0 h a F F so nu) (hF : F ≤ 16) (hLN : LN ≤ 128) (hm : a + 4 + F ≤ 1000000) (h2 : XH) (e2 : h2 = hsr (hnew (hsr (hnew h 100 LN) a 9 (some (hz h))) 100 LN) a 10 (some (hz h + 1))) : hz h2 = a + 4 + F ∧ hw h2 = hw h0 + (10 * F + 2 * LN) ∧ KP h0 h2 a ∧ DF h2 a F LN ∧ hi h2 a 0 = so ∧ hi h2 a 1 = nu ∧ hi h2 a 3 = 0 := by
  obtain ⟨d1, d2, d3, d4, d5, d6, d7, d8, d9, d10, d11⟩ := D
  subst e2
  have n1 : ∀ b, b < hz h → _ := fun b hb => hnew_at (h := h) (kind := 100) (n := LN) hb
  have n2 : ∀ b, b < hz h + 1 → _ := fun b hb => hnew_at (h := hsr (hnew h 100 LN) a 9 (some (hz h))) (kind := 100) (n := LN) (show b < hz h + 1 from hb)
  have kk : ∀ b, b < hz h → hk (hsr (hnew (hsr (hnew h 100 LN) a 9 (some (hz h))) 100 LN) a 10 (some (hz h + 1))) b = hk h b := fun b hb => (n2 b (by omega)).1.trans (n1 b hb).1
  have nn : ∀ b, b < hz h → hn (hsr (hnew (hsr (hnew h 100 LN) a 9 (some (hz h))) 100 LN) a 10 (some (hz h + 1))) b = hn h b := fun b hb => (n2 b (by omega)).2.1.trans (n1 b hb).2.1
  have ii : ∀ b, b < hz h → ∀ j, hi (hsr (hnew (hsr (hnew h 100 LN) a 9 (some (hz h))) 100 LN) a 10 (some (hz h + 1))) b j = hi h b j := fun b hb j => ((n2 b (by omega)).2.2.1 j).trans ((n1 b hb).2.2.1 j)
  have r2 : hr (hsr (hnew (hsr (hnew h 100 LN) a 9 (some (hz h))) 100 LN) a 10 (some (hz h + 1))) a 2 = some (a + 1) := by
    rw [hr_hsr_nk (by omega), (n2 a (by omega)).2.2.2.2 2, hr_hsr_nk (by omega), (n1 a (by omega)).2.2.2.2 2]; exact d5
  have r9 : hr (hsr (hnew (hsr (hnew h 100 LN) a 9 (some (hz h))) 100 LN) a 10 (some (hz h + 1))) a 9 = some (hz h) := by
    rw [hr_hsr_nk (by omega), (n2 a (by omega)).2.2.2.2 9, hr_hsr_eq]
  have k9 : hk (hsr (hnew (hsr (hnew h 100 LN) a 9 (some (hz h))) 100 LN) a 10 (some (hz h + 1))) (hz h) = 100 := (n2 (hz h) (by omega)).1.trans (hnew_k (h := h) (kind := 100) (n := LN))
  have m9 : hn (hsr (hnew (hsr (hnew h 100 LN) a 9 (some (hz h))) 100 LN) a 10 (some (hz h + 1))) (hz h) = LN := (n2 (hz h) (by omega)).2.1.trans (hnew_n (h := h) (kind := 100) (n := LN))
  have k10 : hk (hsr (hnew (hsr (hnew h 100 LN) a 9 (some (hz h))) 100 LN) a 10 (some (hz h + 1))) (hz h + 1) = 100 := hnew_k (h := hsr (hnew h 100 LN) a 9 (some (hz h))) (kind := 100) (n := LN)
  have m10 : hn (hsr (hnew (hsr (hnew h 100 LN) a 9 (some (hz h))) 100 LN) a 10 (some (hz h + 1))) (hz h + 1) = LN := hnew_n (h := hsr (hnew h 100 LN) a 9 (some (hz h))) (kind := 100) (n := LN)
  have rr : ∀ i, i < F → hr (hsr (hnew (hsr (hnew h 100 LN) a 9 (some (hz h))) 100 LN) a 10 (some (hz h + 1))) (a + 1) i = some (a + 2 + i) := fun i hi' => by
    rw [hr_hsr_na (by omega), (n2 (a + 1) (by omega)).2.2.2.2 i, hr_hsr_na (by omega), (n1 (a + 1) (by omega)).2.2.2.2 i]; exact (d8 i hi').1
  have eF : a + 2 + F = hz h := d1.symm
  have eF3 : a + 3 + F = hz h + 1 := by omega
  refine ⟨by show hz h + 1 + 1 = _; omega, by show hw h + LN + LN = _; omega, d3.tr ((KP.new (by omega)).tr ((KP.sr (Nat.le_refl _)).tr ((KP.new (show a ≤ hz h + 1 by omega)).tr (KP.sr (Nat.le_refl _))))), ⟨by show _ ≤ hz h + 1 + 1; omega, by show hz h + 1 + 1 ≤ _; omega, hF, hLN, (kk a (by omega)).trans d4, r2, (kk (a + 1) (by omega)).trans d6, (nn (a + 1) (by omega)).trans d7, fun i hi' => ⟨rr i hi', (kk (a + 2 + i) (by omega)).trans (d8 i hi').2⟩, by rw [eF]; exact r9, by rw [eF]; exact k9, by rw [eF]; exact m9, by rw [eF3]; exact hr_hsr_eq, by rw [eF3]; exact k10, by rw [eF3]; exact m10⟩, (ii a (by omega) 0).trans d9, (ii a (by omega) 1).trans d10, (ii a (by omega) 3).trans d11⟩
set_option maxRecDepth 20000 in
theorem k_dInit {l : Launch} {G : XG} {h : XH} {a F LN d : Nat} {so nu : Int32} (ha : hz h = a + 1) (ka : hk h a = 2) (hF : F ≤ 16) (hLN : (so = 2 ∧ LN = 128) ∨ (so ≠ 2 ∧ LN = 0)) (hm : a + 4 + F ≤ 1000000) : XC l G xEX2_init (d + 2) [.ref a, .int so, .int nu, .int (nI F)] h (fun v h2 => v = none ∧ hz h2 = a + 4 + F ∧ hw h2 = hw h + (10 * F + 2 * LN) ∧ KP h h2 a ∧ DF h2 a F LN ∧ hi h2 a 0 = so ∧ hi h2 a 1 = nu ∧ hi h2 a 3 = 0) := by
  have ha1 : a < hz h := by omega
  refine XC.init xnX2_init (Nat.le_of_ble_eq_true rfl) ?_
  refine XS.go (s_aloadn rfl rfl rfl) ?_
  refine XS.go (s_objInit rfl (lg_1 112 rfl rfl) (lg_1 33 rfl rfl) (lg_1 34 rfl rfl) (by omega) (Nat.le_of_ble_eq_true rfl)) ?_
  refine XS.go (s_aloadn rfl rfl rfl) ?_
  refine XS.go (s_iconst (v := 0) rfl rfl) ?_
  refine XS.go (s_puti rfl xf2_9 (by first | (with_reducible exact ha1) | (simp only [hz_hsi, hz_hsj, hz_hsr, hw_hsi, hw_hsj, hw_hsr, hk_hsi, hk_hsj, hk_hsr]; with_reducible exact ha1)) (by first | (with_reducible exact ka) | (simp only [hz_hsi, hz_hsj, hz_hsr, hw_hsi, hw_hsj, hw_hsr, hk_hsi, hk_hsj, hk_hsr]; with_reducible exact ka)) (by decide) rfl (Or.inl rfl)) ?_
  refine XS.go (s_aloadn rfl rfl rfl) ?_
  refine XS.go (s_lconst (v := 0) rfl rfl) ?_
  refine XS.go (s_putj rfl xf2_15 (by first | (with_reducible exact ha1) | (simp only [hz_hsi, hz_hsj, hz_hsr, hw_hsi, hw_hsj, hw_hsr, hk_hsi, hk_hsj, hk_hsr]; with_reducible exact ha1)) (by first | (with_reducible exact ka) | (simp only [hz_hsi, hz_hsj, hz_hsr, hw_hsi, hw_hsj, hw_hsr, hk_hsi, hk_hsj, hk_hsr]; with_reducible exact ka)) (by decide) rfl (Or.inl rfl)) ?_
  refine XS.go (s_aloadn rfl rfl rfl) ?_
  refine XS.go (s_lconst (v := 0) rfl rfl) ?_
  refine XS.go (s_putj rfl xf2_19 (by first | (with_reducible exact ha1) | (simp only [hz_hsi, hz_hsj, hz_hsr, hw_hsi, hw_hsj, hw_hsr, hk_hsi, hk_hsj, hk_hsr]; with_reducible exact ha1)) (by first | (with_reducible exact ka) | (simp only [hz_hsi, hz_hsj, hz_hsr, hw_hsi, hw_hsj, hw_hsr, hk_hsi, hk_hsj, hk_hsr]; with_reducible exact ka)) (by decide) rfl (Or.inl rfl)) ?_
  refine XS.go (s_aloadn rfl rfl rfl) ?_
  refine XS.go (s_iconst (v := 0) rfl rfl) ?_
  refine XS.go (s_puti rfl xf2_22 (by first | (with_reducible exact ha1) | (simp only [hz_hsi, hz_hsj, hz_hsr, hw_hsi, hw_hsj, hw_hsr, hk_hsi, hk_hsj, hk_hsr]; with_reducible exact ha1)) (by first | (with_reducible exact ka) | (simp only [hz_hsi, hz_hsj, hz_hsr, hw_hsi, hw_hsj, hw_hsr, hk_hsi, hk_hsj, hk_hsr]; with_reducible exact ka)) (by decide) rfl (Or.inl rfl)) ?_
  refine XS.go (s_aloadn rfl rfl rfl) ?_
  refine XS.go (s_iconst (v := 1) rfl rfl) ?_
  refine XS.go (s_puti rfl xf2_25 (by first | (with_reducible exact ha1) | (simp only [hz_hsi, hz_hsj, hz_hsr, hw_hsi, hw_hsj, hw_hsr, hk_hsi, hk_hsj, hk_hsr]; with_reducible exact ha1)) (by first | (with_reducible exact ka) | (simp only [hz_hsi, hz_hsj, hz_hsr, hw_hsi, hw_hsj, hw_hsr, hk_hsi, hk_hsj, hk_hsr]; with_reducible exact ka)) (by decide) rfl (Or.inl rfl)) ?_
  refine XS.go (s_aloadn rfl rfl rfl) ?_
  refine XS.go (s_iconst (v := 0) rfl rfl) ?_
  refine XS.go (s_puti rfl xf2_28 (by first | (with_reducible exact ha1) | (simp only [hz_hsi, hz_hsj, hz_hsr, hw_hsi, hw_hsj, hw_hsr, hk_hsi, hk_hsj, hk_hsr]; with_reducible exact ha1)) (by first | (with_reducible exact ka) | (simp only [hz_hsi, hz_hsj, hz_hsr, hw_hsi, hw_hsj, hw_hsr, hk_hsi, hk_hsj, hk_hsr]; with_reducible exact ka)) (by decide) rfl (Or.inl rfl)) ?_
  refine XS.go (s_aloadn rfl rfl rfl) ?_
  refine XS.go (s_iconst (v := 0) rfl rfl) ?_
  refine XS.go (s_puti rfl xf2_31 (by first | (with_reducible exact ha1) | (simp only [hz_hsi, hz_hsj, hz_hsr, hw_hsi, hw_hsj, hw_hsr, hk_hsi, hk_hsj, hk_hsr]; with_reducible exact ha1)) (by first | (with_reducible exact ka) | (simp only [hz_hsi, hz_hsj, hz_hsr, hw_hsi, hw_hsj, hw_hsr, hk_hsi, hk_hsj, hk_hsr]; with_reducible exact ka)) (by decide) rfl (Or.inl rfl)) ?_
  refine XS.go (s_aloadn rfl rfl rfl) ?_
  refine XS.go (s_iloadn rfl rfl rfl) ?_
  refine XS.go (s_puti rfl xf2_34 (by first | (with_reducible exact ha1) | (simp only [hz_hsi, hz_hsj, hz_hsr, hw_hsi, hw_hsj, hw_hsr, hk_hsi, hk_hsj, hk_hsr]; with_reducible exact ha1)) (by first | (with_reducible exact ka) | (simp only [hz_hsi, hz_hsj, hz_hsr, hw_hsi, hw_hsj, hw_hsr, hk_hsi, hk_hsj, hk_hsr]; with_reducible exact ka)) (by decide) rfl (Or.inr ⟨rfl, rfl⟩)) ?_
  refine XS.go (s_aloadn rfl rfl rfl) ?_
  refine XS.go (s_iloadn rfl rfl rfl) ?_
  refine XS.go (s_puti rfl xf2_37 (by first | (with_reducible exact ha1) | (simp only [hz_hsi, hz_hsj, hz_hsr, hw_hsi, hw_hsj, hw_hsr, hk_hsi, hk_hsj, hk_hsr]; with_reducible exact ha1)) (by first | (with_reducible exact ka) | (simp only [hz_hsi, hz_hsj, hz_hsr, hw_hsi, hw_hsj, hw_hsr, hk_hsi, hk_hsj, hk_hsr]; with_reducible exact ka)) (by decide) rfl (Or.inr ⟨rfl, rfl⟩)) ?_
  refine XR.gen (fun X => hz X = hz h ∧ hw X = hw h ∧ hk X a = 2 ∧ KP h X a ∧ hi X a 0 = so ∧ hi X a 1 = nu ∧ hi X a 3 = 0) ⟨?_, ?_, ?_, ?_, ?_, ?_, ?_⟩ (fun X hX => ?_)
  · simp only [hz_hsi, hz_hsj, hz_hsr, hw_hsi, hw_hsj, hw_hsr, hk_hsi, hk_hsj, hk_hsr]
  · simp only [hz_hsi, hz_hsj, hz_hsr, hw_hsi, hw_hsj, hw_hsr, hk_hsi, hk_hsj, hk_hsr]
  · simp only [hz_hsi, hz_hsj, hz_hsr, hw_hsi, hw_hsj, hw_hsr, hk_hsi, hk_hsj, hk_hsr]; exact ka
  · skip
    repeat (first | (with_reducible exact KP.rf) | (with_reducible refine KP.tr ?_ (KP.sr (Nat.le_refl _))) | (with_reducible refine KP.tr ?_ (KP.si (Nat.le_refl _))) | (with_reducible refine KP.tr ?_ (KP.sj (Nat.le_refl _))) | (with_reducible refine KP.tr ?_ (KP.new ?_)))
  · simp [hi_hsi, hi_hsj]
  · simp [hi_hsi, hi_hsj]
  · simp [hi_hsi, hi_hsj]
  obtain ⟨x1, x2, x3, x4, x5, x6, x7⟩ := hX
  have ha2 : a < hz X := by omega
  refine XS.go (s_aloadn rfl rfl rfl) ?_
  refine XS.go (s_iloadn rfl rfl rfl) ?_
  refine XS.go (s_newf rfl (lg_1 113 rfl rfl) (N := F) (nI_pos (by omega)) (nI_clamp (by omega)) (by omega) (show hz X < 1000000 by omega)) ?_
  refine XS.go (s_putr rfl xf2_42 (show a < hz X + 1 by omega) ((ho_new (h := X) (kind := 104) (n := F) a (by omega)).1.trans x3) (by decide) rfl (Or.inr ⟨rfl, rfl⟩)) ?_
  refine XS.go (s_iconst (v := 0) rfl rfl) ?_
  refine XS.go (s_istore rfl (Nat.le_of_ble_eq_true rfl)) ?_
  refine k_dInit_loop (h0 := h) (LN := LN) (d := d) hF hm (fun h9 D => ?_) F 0 _ (by omega) ?_
  · skip
    have D9 := D
    obtain ⟨e1, e2, e3, e4, -⟩ := D
    rcases hLN with ⟨rfl, rfl⟩ | ⟨hne, rfl⟩
    · skip
      refine XS.go (s_iloadn rfl rfl rfl) ?_
      refine XS.go (s_iconst (v := 2) rfl rfl) ?_
      refine XS.go (s_icmp_ne_f (tgt := 101) rfl rfl (by decide)) ?_
      refine XS.go (s_sipush (v := 128) rfl rfl) ?_
      refine XS.go (s_goto (tgt := 102) rfl rfl) ?_
      refine XS.go (s_istore rfl (Nat.le_of_ble_eq_true rfl)) ?_
      refine XS.go (s_aloadn rfl rfl rfl) ?_
      refine XS.go (s_iload rfl rfl) ?_
      refine XS.go (s_newi (N := 128) rfl (by decide) rfl (by decide) (show hz h9 < 1000000 by omega)) ?_
      refine XS.go (s_putr rfl xf2_47 (show a < hz h9 + 1 by omega) ((ho_new (h := h9) (kind := 100) (n := 128) a (by omega)).1.trans e4) (by decide) rfl (Or.inr ⟨rfl, rfl⟩)) ?_
      refine XS.go (s_aloadn rfl rfl rfl) ?_
      refine XS.go (s_iload rfl rfl) ?_
      refine XS.go (s_newi (N := 128) rfl (by decide) rfl (by decide) (show hz h9 + 1 < 1000000 by omega)) ?_
      refine XS.go (s_putr rfl xf2_51 (show a < hz h9 + 1 + 1 by omega) ((ho_new (h := hsr (hnew h9 100 128) a 9 (some (hz h9))) (kind := 100) (n := 128) a (show a ≠ hz h9 + 1 by omega)).1.trans ((ho_new (h := h9) (kind := 100) (n := 128) a (by omega)).1.trans e4)) (by decide) rfl (Or.inr ⟨rfl, rfl⟩)) ?_
      refine XR.retv rfl rfl (fun hret => ⟨_, hret, ?_⟩)
      exact ⟨rfl, DL.fin D9 hF (by omega) hm _ rfl⟩
    · skip
      refine XS.go (s_iloadn rfl rfl rfl) ?_
      refine XS.go (s_iconst (v := 2) rfl rfl) ?_
      refine XS.go (s_icmp_ne_t (tgt := 101) rfl rfl hne) ?_
      refine XS.go (s_iconst (v := 0) rfl rfl) ?_
      refine XS.go (s_istore rfl (Nat.le_of_ble_eq_true rfl)) ?_
      refine XS.go (s_aloadn rfl rfl rfl) ?_
      refine XS.go (s_iload rfl rfl) ?_
      refine XS.go (s_newi (N := 0) rfl (by decide) rfl (by decide) (show hz h9 < 1000000 by omega)) ?_
      refine XS.go (s_putr rfl xf2_47 (show a < hz h9 + 1 by omega) ((ho_new (h := h9) (kind := 100) (n := 0) a (by omega)).1.trans e4) (by decide) rfl (Or.inr ⟨rfl, rfl⟩)) ?_
      refine XS.go (s_aloadn rfl rfl rfl) ?_
      refine XS.go (s_iload rfl rfl) ?_
      refine XS.go (s_newi (N := 0) rfl (by decide) rfl (by decide) (show hz h9 + 1 < 1000000 by omega)) ?_
      refine XS.go (s_putr rfl xf2_51 (show a < hz h9 + 1 + 1 by omega) ((ho_new (h := hsr (hnew h9 100 0) a 9 (some (hz h9))) (kind := 100) (n := 0) a (show a ≠ hz h9 + 1 by omega)).1.trans ((ho_new (h := h9) (kind := 100) (n := 0) a (by omega)).1.trans e4)) (by decide) rfl (Or.inr ⟨rfl, rfl⟩)) ?_
      refine XR.retv rfl rfl (fun hret => ⟨_, hret, ?_⟩)
      exact ⟨rfl, DL.fin D9 hF (by omega) hm _ rfl⟩
  · skip
    refine ⟨by show hz X + 1 = _; omega, by show hw X + F = _; omega, x4.tr ((KP.new (by omega)).tr (KP.sr (Nat.le_refl _))), (ho_new (h := X) (kind := 104) (n := F) a (by omega)).1.trans x3, ?_, ?_, ?_, fun i hi' => absurd hi' (Nat.not_lt_zero i), ((ho_new (h := X) (kind := 104) (n := F) a (by omega)).2.2.1 0).trans x5, ((ho_new (h := X) (kind := 104) (n := F) a (by omega)).2.2.1 1).trans x6, ((ho_new (h := X) (kind := 104) (n := F) a (by omega)).2.2.1 3).trans x7⟩
    · rw [hr_hsr_eq]; exact congrArg some (by omega)
    · rw [show a + 1 = hz X by omega]; exact hnew_k (h := X) (kind := 104) (n := F)
    · rw [show a + 1 = hz X by omega]; exact hnew_n (h := X) (kind := 104) (n := F)
