/-! Lexer's constructor: an object with arrays of its own -/
def AR (h : XH) (a k b kind n : Nat) : Prop := hr h a k = some b ∧ hk h b = kind ∧ hn h b = n
theorem AR.step {h : XH} {a k b kind n k2 kind2 n2 : Nat} {v : Option Nat} (D : AR h a k b kind n) (hb : b < hz h) (ha : a < hz h) (hne : k ≠ k2) : AR (hsr (hnew h kind2 n2) a k2 v) a k b kind n :=
  ⟨by rw [hr_hsr_nk hne, (hnew_at (kind := kind2) (n := n2) ha).2.2.2.2]; exact D.1, (hnew_at (kind := kind2) (n := n2) hb).1.trans D.2.1, (hnew_at (kind := kind2) (n := n2) hb).2.1.trans D.2.2⟩
theorem AR.made {h : XH} {a k kind n : Nat} : AR (hsr (hnew h kind n) a k (some (hz h))) a k (hz h) kind n := ⟨hr_hsr_eq, hnew_k (h := h) (kind := kind) (n := n), hnew_n (h := h) (kind := kind) (n := n)⟩
theorem AR.si {h : XH} {a k b kind n c j : Nat} {v : Int32} (D : AR h a k b kind n) : AR (hsi h c j v) a k b kind n := D
def LX (h : XH) (a : Nat) : Prop := a + 5 ≤ hz h ∧ hz h ≤ 1000000 ∧ hk h a = 6 ∧ AR h a 0 (a + 1) 100 4001 ∧ AR h a 1 (a + 2) 100 4001 ∧ AR h a 2 (a + 3) 101 4001 ∧ AR h a 3 (a + 4) 101 4001
set_option maxRecDepth 20000 in
theorem k_lInit {l : Launch} {G : XG} {h : XH} {a d : Nat} (hz0 : hz h = a + 1) (ka : hk h a = 6) (hm : a + 5 ≤ 1000000) : XC l G xEX6_init (d + 1) [.ref a] h (fun v h2 => v = none ∧ hz h2 = a + 5 ∧ hw h2 = hw h + 16004 ∧ KP h h2 a ∧ LX h2 a ∧ hi h2 a 4 = 0 ∧ hi h2 a 5 = 0) := by
  have ha1 : a < hz h := by omega
  refine XC.init xnX6_init (Nat.le_of_ble_eq_true rfl) ?_
  refine XS.go (s_aloadn rfl rfl rfl) ?_
  refine XS.go (s_objInit rfl (lg_1 73 rfl rfl) (lg_1 33 rfl rfl) (lg_1 34 rfl rfl) (by omega) (Nat.le_of_ble_eq_true rfl)) ?_
  have KX : KP h h a := KP.rf
  refine XS.go (s_aloadn rfl rfl rfl) ?_
  refine XS.go (s_sipush (v := 4001) rfl rfl) ?_
  refine XS.go (s_newi (N := 4001) rfl (by decide) rfl (by decide) (show hz h < 1000000 by omega)) ?_
  refine XS.go (s_putr rfl xf6_9 (show a < hz h + 1 by omega) ((hnew_at (h := h) (kind := 100) (n := 4001) (show a < hz h by omega)).1.trans ka) (by decide) rfl (Or.inr ⟨rfl, rfl⟩)) ?_
  refine XR.gen (fun X => hz X = a + 2 ∧ hw X = hw h + 4001 ∧ KP h X a ∧ hk X a = 6 ∧ AR X a 0 (a + 1) 100 4001) ⟨?_, ?_, ?_, ?_, ?_⟩ (fun qX0 hX0 => ?_)
  · rw [hz_hsr, hnew_z]; omega
  · (rw [hw_hsr, hnew_w]) <;> omega
  · exact KX.tr ((KP.new (by omega)).tr (KP.sr (Nat.le_refl _)))
  · rw [hk_hsr]; exact (hnew_at (h := h) (kind := 100) (n := 4001) (show a < hz h by omega)).1.trans ka
  · rw [show a + 1 = hz h by omega]; exact AR.made
  obtain ⟨x0a, x0b, KX0, x0k, A0_0⟩ := hX0
  refine XS.go (s_aloadn rfl rfl rfl) ?_
  refine XS.go (s_sipush (v := 4001) rfl rfl) ?_
  refine XS.go (s_newi (N := 4001) rfl (by decide) rfl (by decide) (show hz qX0 < 1000000 by omega)) ?_
  refine XS.go (s_putr rfl xf6_15 (show a < hz qX0 + 1 by omega) ((hnew_at (h := qX0) (kind := 100) (n := 4001) (show a < hz qX0 by omega)).1.trans x0k) (by decide) rfl (Or.inr ⟨rfl, rfl⟩)) ?_
  refine XR.gen (fun X => hz X = a + 3 ∧ hw X = hw h + 8002 ∧ KP h X a ∧ hk X a = 6 ∧ AR X a 0 (a + 1) 100 4001 ∧ AR X a 1 (a + 2) 100 4001) ⟨?_, ?_, ?_, ?_, ?_, ?_⟩ (fun qX1 hX1 => ?_)
  · rw [hz_hsr, hnew_z]; omega
  · (rw [hw_hsr, hnew_w]) <;> omega
  · exact KX0.tr ((KP.new (by omega)).tr (KP.sr (Nat.le_refl _)))
  · rw [hk_hsr]; exact (hnew_at (h := qX0) (kind := 100) (n := 4001) (show a < hz qX0 by omega)).1.trans x0k
  · exact A0_0.step (by omega) (by omega) (by decide)
  · rw [show a + 2 = hz qX0 by omega]; exact AR.made
  obtain ⟨x1a, x1b, KX1, x1k, A1_0, A1_1⟩ := hX1
  refine XS.go (s_aloadn rfl rfl rfl) ?_
  refine XS.go (s_sipush (v := 4001) rfl rfl) ?_
  refine XS.go (s_newj (N := 4001) rfl (by decide) rfl (by decide) (show hz qX1 < 1000000 by omega)) ?_
  refine XS.go (s_putr rfl xf6_18 (show a < hz qX1 + 1 by omega) ((hnew_at (h := qX1) (kind := 101) (n := 4001) (show a < hz qX1 by omega)).1.trans x1k) (by decide) rfl (Or.inr ⟨rfl, rfl⟩)) ?_
  refine XR.gen (fun X => hz X = a + 4 ∧ hw X = hw h + 12003 ∧ KP h X a ∧ hk X a = 6 ∧ AR X a 0 (a + 1) 100 4001 ∧ AR X a 1 (a + 2) 100 4001 ∧ AR X a 2 (a + 3) 101 4001) ⟨?_, ?_, ?_, ?_, ?_, ?_, ?_⟩ (fun qX2 hX2 => ?_)
  · rw [hz_hsr, hnew_z]; omega
  · (rw [hw_hsr, hnew_w]) <;> omega
  · exact KX1.tr ((KP.new (by omega)).tr (KP.sr (Nat.le_refl _)))
  · rw [hk_hsr]; exact (hnew_at (h := qX1) (kind := 101) (n := 4001) (show a < hz qX1 by omega)).1.trans x1k
  · exact A1_0.step (by omega) (by omega) (by decide)
  · exact A1_1.step (by omega) (by omega) (by decide)
  · rw [show a + 3 = hz qX1 by omega]; exact AR.made
  obtain ⟨x2a, x2b, KX2, x2k, A2_0, A2_1, A2_2⟩ := hX2
  refine XS.go (s_aloadn rfl rfl rfl) ?_
  refine XS.go (s_sipush (v := 4001) rfl rfl) ?_
  refine XS.go (s_newj (N := 4001) rfl (by decide) rfl (by decide) (show hz qX2 < 1000000 by omega)) ?_
  refine XS.go (s_putr rfl xf6_22 (show a < hz qX2 + 1 by omega) ((hnew_at (h := qX2) (kind := 101) (n := 4001) (show a < hz qX2 by omega)).1.trans x2k) (by decide) rfl (Or.inr ⟨rfl, rfl⟩)) ?_
  refine XR.gen (fun X => hz X = a + 5 ∧ hw X = hw h + 16004 ∧ KP h X a ∧ hk X a = 6 ∧ AR X a 0 (a + 1) 100 4001 ∧ AR X a 1 (a + 2) 100 4001 ∧ AR X a 2 (a + 3) 101 4001 ∧ AR X a 3 (a + 4) 101 4001) ⟨?_, ?_, ?_, ?_, ?_, ?_, ?_, ?_⟩ (fun qX3 hX3 => ?_)
  · rw [hz_hsr, hnew_z]; omega
  · (rw [hw_hsr, hnew_w]) <;> omega
  · exact KX2.tr ((KP.new (by omega)).tr (KP.sr (Nat.le_refl _)))
  · rw [hk_hsr]; exact (hnew_at (h := qX2) (kind := 101) (n := 4001) (show a < hz qX2 by omega)).1.trans x2k
  · exact A2_0.step (by omega) (by omega) (by decide)
  · exact A2_1.step (by omega) (by omega) (by decide)
  · exact A2_2.step (by omega) (by omega) (by decide)
  · rw [show a + 4 = hz qX2 by omega]; exact AR.made
  obtain ⟨x3a, x3b, KX3, x3k, A3_0, A3_1, A3_2, A3_3⟩ := hX3
  refine XS.go (s_aloadn rfl rfl rfl) ?_
  refine XS.go (s_iconst (v := 0) rfl rfl) ?_
  refine XS.go (s_puti rfl xf6_25 (show a < hz qX3 by omega) x3k (by decide) rfl (Or.inl rfl)) ?_
  refine XS.go (s_aloadn rfl rfl rfl) ?_
  refine XS.go (s_iconst (v := 0) rfl rfl) ?_
  refine XS.go (s_puti rfl xf6_29 (show a < hz qX3 by omega) x3k (by decide) rfl (Or.inl rfl)) ?_
  refine XR.retv rfl rfl (fun hret => ⟨_, hret, ?_⟩)
  refine ⟨rfl, by rw [hz_hsi, hz_hsi]; omega, by rw [hw_hsi, hw_hsi]; omega, KX3.tr ((KP.si (Nat.le_refl _)).tr (KP.si (Nat.le_refl _))), ⟨by rw [hz_hsi, hz_hsi]; omega, by rw [hz_hsi, hz_hsi]; omega, x3k, A3_0, A3_1, A3_2, A3_3⟩, ?_, ?_⟩
  · simp [hi_hsi]
  · simp [hi_hsi]
