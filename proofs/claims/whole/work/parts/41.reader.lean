/-! Reader's constructor -/
def RD (h : XH) (a : Nat) : Prop := a + 7 ≤ hz h ∧ hz h ≤ 1000000 ∧ hk h a = 8 ∧ hr h a 0 = some (a + 1) ∧ BY h (a + 1) (a + 2) ∧ AR h a 1 (a + 3) 100 64 ∧ AR h a 2 (a + 4) 100 64 ∧ AR h a 3 (a + 5) 100 64 ∧ AR h a 4 (a + 6) 100 64
set_option maxRecDepth 20000 in
theorem k_rInit {l : Launch} {G : XG} {h : XH} {a d : Nat} (hz0 : hz h = a + 1) (ka : hk h a = 8) (hm : a + 7 ≤ 1000000) : XC l G xEX8_init (d + 2) [.ref a] h (fun v h2 => v = none ∧ hz h2 = a + 7 ∧ hw h2 = hw h + 4258 ∧ KP h h2 a ∧ RD h2 a ∧ hi h2 (a + 1) 1 = 0 ∧ hi h2 a 5 = -1) := by
  have ha1 : a < hz h := by omega
  refine XC.init xnX8_init (Nat.le_of_ble_eq_true rfl) ?_
  refine XS.go (s_aloadn rfl rfl rfl) ?_
  refine XS.go (s_objInit rfl (lg_2 108 rfl rfl) (lg_1 33 rfl rfl) (lg_1 34 rfl rfl) (by omega) (Nat.le_of_ble_eq_true rfl)) ?_
  refine XS.go (s_aloadn rfl rfl rfl) ?_
  refine XS.go (s_new (ci := 1) rfl (lg_2 109 rfl rfl) (by decide) rfl (show hz h < 1000000 by omega)) ?_
  refine XS.go (s_dup rfl rfl) ?_
  refine r_callin rfl xnX1_init rfl (List.mem_of_getElem? (i := 8) rfl) (k_bInit (h := hnew h 1 2) (b := hz h) (d := d) (Nat.lt_succ_self _) (hnew_k (h := h) (kind := 1) (n := 2)) (show hz h + 1 < 1000000 by omega)) rfl rfl (by omega) (by decide) (Nat.le_of_ble_eq_true rfl) ?_
  rintro _ _ ⟨rfl, rfl⟩
  refine XS.go (s_putr rfl xf8_12 (show a < hz h + 2 by omega) ((hnew_at (h := hnew h 1 2) (kind := 102) (n := 4000) (show a < hz h + 1 by omega)).1.trans ((hnew_at (h := h) (kind := 1) (n := 2) ha1).1.trans ka)) (by decide) rfl (Or.inr ⟨rfl, rfl⟩)) ?_
  obtain ⟨y1, y2, y3, y4, y5, y6, y7, y8, y9, -⟩ := BY.made (k := 0) ha1 (by omega) _ rfl
  refine XR.gen (fun X => hz X = a + 3 ∧ hw X = hw h + 4002 ∧ KP h X a ∧ hk X a = 8 ∧ (hr X a 0 = some (a + 1) ∧ BY X (a + 1) (a + 2) ∧ hi X (a + 1) 1 = 0)) ⟨y1.trans (by omega), y2, y3, y4.trans ka, by rw [show a + 1 = hz h by omega, show a + 2 = hz h + 1 by omega]; exact ⟨y7, y8, y9⟩⟩ (fun qX hX => ?_)
  obtain ⟨xa, xb, KX, xk, xB⟩ := hX
  refine XS.go (s_aloadn rfl rfl rfl) ?_
  refine XS.go (s_bipush (v := 64) rfl rfl) ?_
  refine XS.go (s_newi (N := 64) rfl (by decide) rfl (by decide) (show hz qX < 1000000 by omega)) ?_
  refine XS.go (s_putr rfl xf8_18 (show a < hz qX + 1 by omega) ((hnew_at (h := qX) (kind := 100) (n := 64) (show a < hz qX by omega)).1.trans xk) (by decide) rfl (Or.inr ⟨rfl, rfl⟩)) ?_
  refine XR.gen (fun X => hz X = a + 4 ∧ hw X = hw h + 4066 ∧ KP h X a ∧ hk X a = 8 ∧ (hr X a 0 = some (a + 1) ∧ BY X (a + 1) (a + 2) ∧ hi X (a + 1) 1 = 0) ∧ AR X a 1 (a + 3) 100 64) ⟨?_, ?_, ?_, ?_, ?_, ?_⟩ (fun qX0 hX0 => ?_)
  · rw [hz_hsr, hnew_z]; omega
  · (rw [hw_hsr, hnew_w]) <;> omega
  · exact KX.tr ((KP.new (by omega)).tr (KP.sr (Nat.le_refl _)))
  · rw [hk_hsr]; exact (hnew_at (h := qX) (kind := 100) (n := 64) (show a < hz qX by omega)).1.trans xk
  · refine ⟨?_, BY.keepR xB.2.1 ((KR.new (by omega)).tr (KR.sr (Or.inl (by omega)))) (by rw [hz_hsr, hnew_z]; omega) (by rw [hz_hsr, hnew_z]; omega), ?_⟩
    · rw [hr_hsr_nk (by decide), (hnew_at (h := qX) (kind := 100) (n := 64) (show a < hz qX by omega)).2.2.2.2]; exact xB.1
    · rw [hi_hsr, (hnew_at (h := qX) (kind := 100) (n := 64) (show a + 1 < hz qX by omega)).2.2.1]; exact xB.2.2
  · rw [show a + 3 = hz qX by omega]; exact AR.made
  obtain ⟨x0a, x0b, KX0, x0k, xB0, A0_0⟩ := hX0
  refine XS.go (s_aloadn rfl rfl rfl) ?_
  refine XS.go (s_bipush (v := 64) rfl rfl) ?_
  refine XS.go (s_newi (N := 64) rfl (by decide) rfl (by decide) (show hz qX0 < 1000000 by omega)) ?_
  refine XS.go (s_putr rfl xf8_22 (show a < hz qX0 + 1 by omega) ((hnew_at (h := qX0) (kind := 100) (n := 64) (show a < hz qX0 by omega)).1.trans x0k) (by decide) rfl (Or.inr ⟨rfl, rfl⟩)) ?_
  refine XR.gen (fun X => hz X = a + 5 ∧ hw X = hw h + 4130 ∧ KP h X a ∧ hk X a = 8 ∧ (hr X a 0 = some (a + 1) ∧ BY X (a + 1) (a + 2) ∧ hi X (a + 1) 1 = 0) ∧ AR X a 1 (a + 3) 100 64 ∧ AR X a 2 (a + 4) 100 64) ⟨?_, ?_, ?_, ?_, ?_, ?_, ?_⟩ (fun qX1 hX1 => ?_)
  · rw [hz_hsr, hnew_z]; omega
  · (rw [hw_hsr, hnew_w]) <;> omega
  · exact KX0.tr ((KP.new (by omega)).tr (KP.sr (Nat.le_refl _)))
  · rw [hk_hsr]; exact (hnew_at (h := qX0) (kind := 100) (n := 64) (show a < hz qX0 by omega)).1.trans x0k
  · refine ⟨?_, BY.keepR xB0.2.1 ((KR.new (by omega)).tr (KR.sr (Or.inl (by omega)))) (by rw [hz_hsr, hnew_z]; omega) (by rw [hz_hsr, hnew_z]; omega), ?_⟩
    · rw [hr_hsr_nk (by decide), (hnew_at (h := qX0) (kind := 100) (n := 64) (show a < hz qX0 by omega)).2.2.2.2]; exact xB0.1
    · rw [hi_hsr, (hnew_at (h := qX0) (kind := 100) (n := 64) (show a + 1 < hz qX0 by omega)).2.2.1]; exact xB0.2.2
  · exact A0_0.step (by omega) (by omega) (by decide)
  · rw [show a + 4 = hz qX0 by omega]; exact AR.made
  obtain ⟨x1a, x1b, KX1, x1k, xB1, A1_0, A1_1⟩ := hX1
  refine XS.go (s_aloadn rfl rfl rfl) ?_
  refine XS.go (s_bipush (v := 64) rfl rfl) ?_
  refine XS.go (s_newi (N := 64) rfl (by decide) rfl (by decide) (show hz qX1 < 1000000 by omega)) ?_
  refine XS.go (s_putr rfl xf8_25 (show a < hz qX1 + 1 by omega) ((hnew_at (h := qX1) (kind := 100) (n := 64) (show a < hz qX1 by omega)).1.trans x1k) (by decide) rfl (Or.inr ⟨rfl, rfl⟩)) ?_
  refine XR.gen (fun X => hz X = a + 6 ∧ hw X = hw h + 4194 ∧ KP h X a ∧ hk X a = 8 ∧ (hr X a 0 = some (a + 1) ∧ BY X (a + 1) (a + 2) ∧ hi X (a + 1) 1 = 0) ∧ AR X a 1 (a + 3) 100 64 ∧ AR X a 2 (a + 4) 100 64 ∧ AR X a 3 (a + 5) 100 64) ⟨?_, ?_, ?_, ?_, ?_, ?_, ?_, ?_⟩ (fun qX2 hX2 => ?_)
  · rw [hz_hsr, hnew_z]; omega
  · (rw [hw_hsr, hnew_w]) <;> omega
  · exact KX1.tr ((KP.new (by omega)).tr (KP.sr (Nat.le_refl _)))
  · rw [hk_hsr]; exact (hnew_at (h := qX1) (kind := 100) (n := 64) (show a < hz qX1 by omega)).1.trans x1k
  · refine ⟨?_, BY.keepR xB1.2.1 ((KR.new (by omega)).tr (KR.sr (Or.inl (by omega)))) (by rw [hz_hsr, hnew_z]; omega) (by rw [hz_hsr, hnew_z]; omega), ?_⟩
    · rw [hr_hsr_nk (by decide), (hnew_at (h := qX1) (kind := 100) (n := 64) (show a < hz qX1 by omega)).2.2.2.2]; exact xB1.1
    · rw [hi_hsr, (hnew_at (h := qX1) (kind := 100) (n := 64) (show a + 1 < hz qX1 by omega)).2.2.1]; exact xB1.2.2
  · exact A1_0.step (by omega) (by omega) (by decide)
  · exact A1_1.step (by omega) (by omega) (by decide)
  · rw [show a + 5 = hz qX1 by omega]; exact AR.made
  obtain ⟨x2a, x2b, KX2, x2k, xB2, A2_0, A2_1, A2_2⟩ := hX2
  refine XS.go (s_aloadn rfl rfl rfl) ?_
  refine XS.go (s_bipush (v := 64) rfl rfl) ?_
  refine XS.go (s_newi (N := 64) rfl (by decide) rfl (by decide) (show hz qX2 < 1000000 by omega)) ?_
  refine XS.go (s_putr rfl xf8_28 (show a < hz qX2 + 1 by omega) ((hnew_at (h := qX2) (kind := 100) (n := 64) (show a < hz qX2 by omega)).1.trans x2k) (by decide) rfl (Or.inr ⟨rfl, rfl⟩)) ?_
  refine XR.gen (fun X => hz X = a + 7 ∧ hw X = hw h + 4258 ∧ KP h X a ∧ hk X a = 8 ∧ (hr X a 0 = some (a + 1) ∧ BY X (a + 1) (a + 2) ∧ hi X (a + 1) 1 = 0) ∧ AR X a 1 (a + 3) 100 64 ∧ AR X a 2 (a + 4) 100 64 ∧ AR X a 3 (a + 5) 100 64 ∧ AR X a 4 (a + 6) 100 64) ⟨?_, ?_, ?_, ?_, ?_, ?_, ?_, ?_, ?_⟩ (fun qX3 hX3 => ?_)
  · rw [hz_hsr, hnew_z]; omega
  · (rw [hw_hsr, hnew_w]) <;> omega
  · exact KX2.tr ((KP.new (by omega)).tr (KP.sr (Nat.le_refl _)))
  · rw [hk_hsr]; exact (hnew_at (h := qX2) (kind := 100) (n := 64) (show a < hz qX2 by omega)).1.trans x2k
  · refine ⟨?_, BY.keepR xB2.2.1 ((KR.new (by omega)).tr (KR.sr (Or.inl (by omega)))) (by rw [hz_hsr, hnew_z]; omega) (by rw [hz_hsr, hnew_z]; omega), ?_⟩
    · rw [hr_hsr_nk (by decide), (hnew_at (h := qX2) (kind := 100) (n := 64) (show a < hz qX2 by omega)).2.2.2.2]; exact xB2.1
    · rw [hi_hsr, (hnew_at (h := qX2) (kind := 100) (n := 64) (show a + 1 < hz qX2 by omega)).2.2.1]; exact xB2.2.2
  · exact A2_0.step (by omega) (by omega) (by decide)
  · exact A2_1.step (by omega) (by omega) (by decide)
  · exact A2_2.step (by omega) (by omega) (by decide)
  · rw [show a + 6 = hz qX2 by omega]; exact AR.made
  obtain ⟨x3a, x3b, KX3, x3k, xB3, A3_0, A3_1, A3_2, A3_3⟩ := hX3
  have ha9 : a < hz qX3 := by omega
  refine XS.go (s_aloadn rfl rfl rfl) ?_
  refine XS.go (s_iconst (v := (-1)) rfl rfl) ?_
  refine XS.go (s_puti rfl xf8_31 (by first | (with_reducible exact ha9) | (simp only [hz_hsi, hz_hsj, hk_hsi, hk_hsj, hw_hsi, hw_hsj]; with_reducible exact ha9)) (by first | (with_reducible exact x3k) | (simp only [hz_hsi, hz_hsj, hk_hsi, hk_hsj, hw_hsi, hw_hsj]; with_reducible exact x3k)) (by decide) rfl (Or.inl rfl)) ?_
  refine XS.go (s_aloadn rfl rfl rfl) ?_
  refine XS.go (s_iconst (v := (-1)) rfl rfl) ?_
  refine XS.go (s_puti rfl xf8_35 (by first | (with_reducible exact ha9) | (simp only [hz_hsi, hz_hsj, hk_hsi, hk_hsj, hw_hsi, hw_hsj]; with_reducible exact ha9)) (by first | (with_reducible exact x3k) | (simp only [hz_hsi, hz_hsj, hk_hsi, hk_hsj, hw_hsi, hw_hsj]; with_reducible exact x3k)) (by decide) rfl (Or.inl rfl)) ?_
  refine XS.go (s_aloadn rfl rfl rfl) ?_
  refine XS.go (s_iconst (v := 0) rfl rfl) ?_
  refine XS.go (s_puti rfl xf8_38 (by first | (with_reducible exact ha9) | (simp only [hz_hsi, hz_hsj, hk_hsi, hk_hsj, hw_hsi, hw_hsj]; with_reducible exact ha9)) (by first | (with_reducible exact x3k) | (simp only [hz_hsi, hz_hsj, hk_hsi, hk_hsj, hw_hsi, hw_hsj]; with_reducible exact x3k)) (by decide) rfl (Or.inl rfl)) ?_
  refine XS.go (s_aloadn rfl rfl rfl) ?_
  refine XS.go (s_iconst (v := (-1)) rfl rfl) ?_
  refine XS.go (s_puti rfl xf8_41 (by first | (with_reducible exact ha9) | (simp only [hz_hsi, hz_hsj, hk_hsi, hk_hsj, hw_hsi, hw_hsj]; with_reducible exact ha9)) (by first | (with_reducible exact x3k) | (simp only [hz_hsi, hz_hsj, hk_hsi, hk_hsj, hw_hsi, hw_hsj]; with_reducible exact x3k)) (by decide) rfl (Or.inl rfl)) ?_
  refine XS.go (s_aloadn rfl rfl rfl) ?_
  refine XS.go (s_iconst (v := (-1)) rfl rfl) ?_
  refine XS.go (s_puti rfl xf8_44 (by first | (with_reducible exact ha9) | (simp only [hz_hsi, hz_hsj, hk_hsi, hk_hsj, hw_hsi, hw_hsj]; with_reducible exact ha9)) (by first | (with_reducible exact x3k) | (simp only [hz_hsi, hz_hsj, hk_hsi, hk_hsj, hw_hsi, hw_hsj]; with_reducible exact x3k)) (by decide) rfl (Or.inl rfl)) ?_
  refine XS.go (s_aloadn rfl rfl rfl) ?_
  refine XS.go (s_lconst (v := 0) rfl rfl) ?_
  refine XS.go (s_putj rfl xf8_47 (by first | (with_reducible exact ha9) | (simp only [hz_hsi, hz_hsj, hk_hsi, hk_hsj, hw_hsi, hw_hsj]; with_reducible exact ha9)) (by first | (with_reducible exact x3k) | (simp only [hz_hsi, hz_hsj, hk_hsi, hk_hsj, hw_hsi, hw_hsj]; with_reducible exact x3k)) (by decide) rfl (Or.inl rfl)) ?_
  refine XS.go (s_aloadn rfl rfl rfl) ?_
  refine XS.go (s_iconst (v := 0) rfl rfl) ?_
  refine XS.go (s_puti rfl xf8_51 (by first | (with_reducible exact ha9) | (simp only [hz_hsi, hz_hsj, hk_hsi, hk_hsj, hw_hsi, hw_hsj]; with_reducible exact ha9)) (by first | (with_reducible exact x3k) | (simp only [hz_hsi, hz_hsj, hk_hsi, hk_hsj, hw_hsi, hw_hsj]; with_reducible exact x3k)) (by decide) rfl (Or.inl rfl)) ?_
  refine XR.gen (fun X => hz X = hz qX3 ∧ hw X = hw qX3 ∧ KP qX3 X a ∧ KR qX3 X (a + 1) (a + 7) ∧ hk X a = 8 ∧ (∀ j, hr X a j = hr qX3 a j) ∧ hi X a 5 = -1) ⟨?_, ?_, ?_, ?_, ?_, ?_, ?_⟩ (fun qZ hZ => ?_)
  · simp only [hz_hsi, hz_hsj]
  · simp only [hw_hsi, hw_hsj]
  · repeat (first | (with_reducible exact KP.rf) | (with_reducible refine KP.tr ?_ (KP.si (Nat.le_refl _))) | (with_reducible refine KP.tr ?_ (KP.sj (Nat.le_refl _))))
  · repeat (first | (with_reducible exact KR.rf) | (with_reducible refine KR.tr ?_ (KR.si (Or.inl (Nat.lt_succ_self _)))) | (with_reducible refine KR.tr ?_ (KR.sj (Or.inl (Nat.lt_succ_self _)))))
  · simp only [hk_hsi, hk_hsj]; exact x3k
  · intro j; simp only [hr_hsi, hr_hsj]
  · simp [hi_hsi, hi_hsj]
  obtain ⟨u1, u2, u3, u4, u5, u6, u7⟩ := hZ
  have ak : ∀ k b, AR qX3 a k b 100 64 → a + 1 ≤ b → b < a + 7 → AR qZ a k b 100 64 := fun k b q q1 q2 => ⟨(u6 k).trans q.1, (u4 b q1 q2).1.trans q.2.1, (u4 b q1 q2).2.1.trans q.2.2⟩
  have RR : RD qZ a := ⟨by omega, by omega, u5, (u6 0).trans xB3.1, BY.keepR xB3.2.1 (u4.sub (by omega) (by omega)) (by omega) (by omega), ak _ _ A3_0 (by omega) (by omega), ak _ _ A3_1 (by omega) (by omega), ak _ _ A3_2 (by omega) (by omega), ak _ _ A3_3 (by omega) (by omega)⟩
  refine XR.retv rfl rfl (fun hret => ⟨_, hret, rfl, u1.trans x3a, u2.trans x3b, KX3.tr u3, RR, ((u4 (a + 1) (by omega) (by omega)).2.2.1 1).trans xB3.2.2, u7⟩)
