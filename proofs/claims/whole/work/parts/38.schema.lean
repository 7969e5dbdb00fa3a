/-! Schema's constructor -/
def NB (h : XH) (a S M : Nat) (so : Int32) : Prop := ∀ i, i < M → hi h (a + i * S) 0 = so ∧ hi h (a + i * S) 1 = nI i
theorem NB.keepR {h h2 : XH} {a S M : Nat} {so : Int32} (D : NB h a S M so) (hS : 0 < S) (K : KR h h2 a (a + M * S)) : NB h2 a S M so := fun i hi' => by
  have hin := mul_in (S := S) hi'
  have e := K (a + i * S) (by omega) (by omega)
  exact ⟨by rw [e.2.2.1]; exact (D i hi').1, by rw [e.2.2.1]; exact (D i hi').2⟩
/-- one group of the schema at s: its cell g, the field k of s -/
def SG (h : XH) (s k g M F LN : Nat) (so : Int32) : Prop := hr h s k = some g ∧ GR h g M F LN ∧ hi h g 1 = 0 ∧ NB h (g + 2) (F + 4) M so
theorem SG.keepR {h h2 : XH} {s k g M F LN : Nat} {so : Int32} (D : SG h s k g M F LN so) (e : hr h2 s k = hr h s k) (K : KR h h2 g (g + 2 + M * (F + 4))) (hle : g + 2 + M * (F + 4) ≤ hz h2) (hm : hz h2 ≤ 1000000) : SG h2 s k g M F LN so :=
  ⟨e.trans D.1, D.2.1.keepR K hle hm, by rw [(K g (Nat.le_refl _) (by omega)).2.2.1 1]; exact D.2.2.1, D.2.2.2.keepR (by omega) (K.sub (by omega) (by omega))⟩
set_option maxRecDepth 20000 in
theorem k_sInit {l : Launch} {G : XG} {h : XH} {s d : Nat} (hs : hz h = s + 1) (ks : hk h s = 9) (hm : s + 616 ≤ 1000000) : XC l G xEX9_init (d + 4) [.ref s] h (fun v h2 => v = none ∧ hz h2 = s + 616 ∧ hw h2 = hw h + 8222 ∧ KP h h2 s ∧ SC h2 s ∧ SG h2 s 0 (s + 1) 12 12 128 2 ∧ SG h2 s 1 (s + 195) 16 16 0 3 ∧ SG h2 s 2 (s + 517) 8 8 0 4 ∧ hi h2 s 4 = 0 ∧ hi h2 s 5 = -1) := by
  have hs1 : s < hz h := by omega
  refine XC.init xnX9_init (Nat.le_of_ble_eq_true rfl) ?_
  refine XS.go (s_aloadn rfl rfl rfl) ?_
  refine XS.go (s_objInit rfl (lg_1 99 rfl rfl) (lg_1 33 rfl rfl) (lg_1 34 rfl rfl) (by omega) (Nat.le_of_ble_eq_true rfl)) ?_
  have KX : KP h h s := KP.rf
  refine XS.go (s_aloadn rfl rfl rfl) ?_
  refine XS.go (s_new (ci := 4) rfl (lg_1 100 rfl rfl) (by decide) rfl (show hz h < 1000000 by omega)) ?_
  refine XS.go (s_dup rfl rfl) ?_
  refine XS.go (s_iconst (v := 2) rfl rfl) ?_
  refine XS.go (s_bipush (v := 12) rfl rfl) ?_
  refine XS.go (s_bipush (v := 12) rfl rfl) ?_
  refine r_calli rfl xnX4_init rfl xm9_11 (k_gInit (h := hnew h 4 2) (g := hz h) (M := 12) (F := 12) (LN := 128) (d := d) (so := 2) hnew_z (hnew_k (h := h) (kind := 4) (n := 2)) (by decide) (by decide) (Or.inl ⟨rfl, rfl⟩) (by omega)) rfl rfl (by omega) (by decide) (Nat.le_of_ble_eq_true rfl) ?_
  rintro _ qY0 ⟨rfl, z0, w0, K0, G0, c0, n0⟩
  have w0b : hw qY0 = hw h + 2 + 12 + 12 * (12 + 10 * 12 + 2 * 128) := w0
  refine XS.go (s_putr rfl xf9_14 (show s < hz qY0 by omega) ((K0 s (by omega)).1.trans ((hnew_at (h := h) (kind := 4) (n := 2) (show s < hz h by omega)).1.trans ks)) (by decide) rfl (Or.inr ⟨rfl, rfl⟩)) ?_
  have zz0 : hz h = s + 1 := by omega
  have KY0 : KP h qY0 s := (KP.new (by omega)).tr (K0.le (by omega))
  refine XR.gen (fun X => hz X = s + 195 ∧ hw X = hw h + 4670 ∧ KP h X s ∧ hk X s = 9 ∧ SG X s 0 (s + 1) 12 12 128 2) ⟨?_, ?_, ?_, ?_, ?_⟩ (fun qX0 hX0 => ?_)
  · rw [hz_hsr]; omega
  · rw [hw_hsr]; omega
  · exact KX.tr (KY0.tr (KP.sr (Nat.le_refl _)))
  · rw [hk_hsr]; exact (K0 s (by omega)).1.trans ((hnew_at (h := h) (kind := 4) (n := 2) (show s < hz h by omega)).1.trans ks)
  · rw [← zz0]
    exact ⟨hr_hsr_eq, G0.keepR (KR.sr (Or.inl (by omega))) (by rw [hz_hsr]; omega) (by rw [hz_hsr]; omega), by rw [hi_hsr]; exact c0, NB.keepR n0 (by decide) (KR.sr (Or.inl (by omega)))⟩
  obtain ⟨x0a, x0b, KX0, x0k, S0_0⟩ := hX0
  refine XS.go (s_aloadn rfl rfl rfl) ?_
  refine XS.go (s_new (ci := 4) rfl (lg_1 100 rfl rfl) (by decide) rfl (show hz qX0 < 1000000 by omega)) ?_
  refine XS.go (s_dup rfl rfl) ?_
  refine XS.go (s_iconst (v := 3) rfl rfl) ?_
  refine XS.go (s_bipush (v := 16) rfl rfl) ?_
  refine XS.go (s_bipush (v := 16) rfl rfl) ?_
  refine r_calli rfl xnX4_init rfl xm9_11 (k_gInit (h := hnew qX0 4 2) (g := hz qX0) (M := 16) (F := 16) (LN := 0) (d := d) (so := 3) hnew_z (hnew_k (h := qX0) (kind := 4) (n := 2)) (by decide) (by decide) (Or.inr ⟨by decide, rfl⟩) (by omega)) rfl rfl (by omega) (by decide) (Nat.le_of_ble_eq_true rfl) ?_
  rintro _ qY1 ⟨rfl, z1, w1, K1, G1, c1, n1⟩
  have w1b : hw qY1 = hw qX0 + 2 + 16 + 16 * (12 + 10 * 16 + 2 * 0) := w1
  refine XS.go (s_putr rfl xf9_20 (show s < hz qY1 by omega) ((K1 s (by omega)).1.trans ((hnew_at (h := qX0) (kind := 4) (n := 2) (show s < hz qX0 by omega)).1.trans x0k)) (by decide) rfl (Or.inr ⟨rfl, rfl⟩)) ?_
  have zz1 : hz qX0 = s + 195 := by omega
  have KY1 : KP qX0 qY1 s := (KP.new (by omega)).tr (K1.le (by omega))
  refine XR.gen (fun X => hz X = s + 517 ∧ hw X = hw h + 7440 ∧ KP h X s ∧ hk X s = 9 ∧ SG X s 0 (s + 1) 12 12 128 2 ∧ SG X s 1 (s + 195) 16 16 0 3) ⟨?_, ?_, ?_, ?_, ?_, ?_⟩ (fun qX1 hX1 => ?_)
  · rw [hz_hsr]; omega
  · rw [hw_hsr]; omega
  · exact KX0.tr (KY1.tr (KP.sr (Nat.le_refl _)))
  · rw [hk_hsr]; exact (K1 s (by omega)).1.trans ((hnew_at (h := qX0) (kind := 4) (n := 2) (show s < hz qX0 by omega)).1.trans x0k)
  · refine SG.keepR S0_0 ?_ ((KR.new (kind := 4) (n := 2) (by omega)).tr ((KP.kr K1 (by omega)).tr (KR.sr (Or.inl (by omega))))) (by rw [hz_hsr]; omega) (by rw [hz_hsr]; omega)
    rw [hr_hsr_nk (by decide), (K1 s (by omega)).2.2.2.2]; exact (hnew_at (h := qX0) (kind := 4) (n := 2) (show s < hz qX0 by omega)).2.2.2.2 _
  · rw [← zz1]
    exact ⟨hr_hsr_eq, G1.keepR (KR.sr (Or.inl (by omega))) (by rw [hz_hsr]; omega) (by rw [hz_hsr]; omega), by rw [hi_hsr]; exact c1, NB.keepR n1 (by decide) (KR.sr (Or.inl (by omega)))⟩
  obtain ⟨x1a, x1b, KX1, x1k, S1_0, S1_1⟩ := hX1
  refine XS.go (s_aloadn rfl rfl rfl) ?_
  refine XS.go (s_new (ci := 4) rfl (lg_1 100 rfl rfl) (by decide) rfl (show hz qX1 < 1000000 by omega)) ?_
  refine XS.go (s_dup rfl rfl) ?_
  refine XS.go (s_iconst (v := 4) rfl rfl) ?_
  refine XS.go (s_bipush (v := 8) rfl rfl) ?_
  refine XS.go (s_bipush (v := 8) rfl rfl) ?_
  refine r_calli rfl xnX4_init rfl xm9_11 (k_gInit (h := hnew qX1 4 2) (g := hz qX1) (M := 8) (F := 8) (LN := 0) (d := d) (so := 4) hnew_z (hnew_k (h := qX1) (kind := 4) (n := 2)) (by decide) (by decide) (Or.inr ⟨by decide, rfl⟩) (by omega)) rfl rfl (by omega) (by decide) (Nat.le_of_ble_eq_true rfl) ?_
  rintro _ qY2 ⟨rfl, z2, w2, K2, G2, c2, n2⟩
  have w2b : hw qY2 = hw qX1 + 2 + 8 + 8 * (12 + 10 * 8 + 2 * 0) := w2
  refine XS.go (s_putr rfl xf9_23 (show s < hz qY2 by omega) ((K2 s (by omega)).1.trans ((hnew_at (h := qX1) (kind := 4) (n := 2) (show s < hz qX1 by omega)).1.trans x1k)) (by decide) rfl (Or.inr ⟨rfl, rfl⟩)) ?_
  have zz2 : hz qX1 = s + 517 := by omega
  have KY2 : KP qX1 qY2 s := (KP.new (by omega)).tr (K2.le (by omega))
  refine XR.gen (fun X => hz X = s + 615 ∧ hw X = hw h + 8186 ∧ KP h X s ∧ hk X s = 9 ∧ SG X s 0 (s + 1) 12 12 128 2 ∧ SG X s 1 (s + 195) 16 16 0 3 ∧ SG X s 2 (s + 517) 8 8 0 4) ⟨?_, ?_, ?_, ?_, ?_, ?_, ?_⟩ (fun qX2 hX2 => ?_)
  · rw [hz_hsr]; omega
  · rw [hw_hsr]; omega
  · exact KX1.tr (KY2.tr (KP.sr (Nat.le_refl _)))
  · rw [hk_hsr]; exact (K2 s (by omega)).1.trans ((hnew_at (h := qX1) (kind := 4) (n := 2) (show s < hz qX1 by omega)).1.trans x1k)
  · refine SG.keepR S1_0 ?_ ((KR.new (kind := 4) (n := 2) (by omega)).tr ((KP.kr K2 (by omega)).tr (KR.sr (Or.inl (by omega))))) (by rw [hz_hsr]; omega) (by rw [hz_hsr]; omega)
    rw [hr_hsr_nk (by decide), (K2 s (by omega)).2.2.2.2]; exact (hnew_at (h := qX1) (kind := 4) (n := 2) (show s < hz qX1 by omega)).2.2.2.2 _
  · refine SG.keepR S1_1 ?_ ((KR.new (kind := 4) (n := 2) (by omega)).tr ((KP.kr K2 (by omega)).tr (KR.sr (Or.inl (by omega))))) (by rw [hz_hsr]; omega) (by rw [hz_hsr]; omega)
    rw [hr_hsr_nk (by decide), (K2 s (by omega)).2.2.2.2]; exact (hnew_at (h := qX1) (kind := 4) (n := 2) (show s < hz qX1 by omega)).2.2.2.2 _
  · rw [← zz2]
    exact ⟨hr_hsr_eq, G2.keepR (KR.sr (Or.inl (by omega))) (by rw [hz_hsr]; omega) (by rw [hz_hsr]; omega), by rw [hi_hsr]; exact c2, NB.keepR n2 (by decide) (KR.sr (Or.inl (by omega)))⟩
  obtain ⟨x2a, x2b, KX2, x2k, S2_0, S2_1, S2_2⟩ := hX2
  refine XS.go (s_aloadn rfl rfl rfl) ?_
  refine XS.go (s_bipush (v := 36) rfl rfl) ?_
  refine XS.go (s_newd rfl (lg_2 5 rfl rfl) (N := 36) (by decide) rfl (by decide) (show hz qX2 < 1000000 by omega)) ?_
  refine XS.go (s_putr rfl xf9_28 (show s < hz qX2 + 1 by omega) ((ho_new (h := qX2) (kind := 105) (n := 36) s (by omega)).1.trans x2k) (by decide) rfl (Or.inr ⟨rfl, rfl⟩)) ?_
  refine XS.go (s_aloadn rfl rfl rfl) ?_
  refine XS.go (s_iconst (v := 0) rfl rfl) ?_
  refine XS.go (s_puti rfl xf9_32 (show s < hz qX2 + 1 by omega) ((ho_new (h := qX2) (kind := 105) (n := 36) s (by omega)).1.trans x2k) (by decide) rfl (Or.inl rfl)) ?_
  refine XS.go (s_aloadn rfl rfl rfl) ?_
  refine XS.go (s_iconst (v := (-1)) rfl rfl) ?_
  refine XS.go (s_puti rfl xf9_36 (show s < hz qX2 + 1 by omega) ((ho_new (h := qX2) (kind := 105) (n := 36) s (by omega)).1.trans x2k) (by decide) rfl (Or.inl rfl)) ?_
  refine XR.retv rfl rfl (fun hret => ⟨_, hret, ?_⟩)
  have nw := ho_new (h := qX2) (kind := 105) (n := 36) s (by omega)
  have KL : ∀ lo up, s < lo → up ≤ hz qX2 → KR qX2 (hsi (hsi (hsr (hnew qX2 105 36) s 3 (some (hz qX2))) s 4 0) s 5 (-1)) lo up := fun lo up h1 h2' => (KR.new (kind := 105) (n := 36) h2').tr ((KR.sr (Or.inl h1)).tr ((KR.si (Or.inl h1)).tr (KR.si (Or.inl h1))))
  have er : ∀ k, k ≠ 3 → hr (hsi (hsi (hsr (hnew qX2 105 36) s 3 (some (hz qX2))) s 4 0) s 5 (-1)) s k = hr qX2 s k := fun k hk' => by rw [hr_hsi, hr_hsi, hr_hsr_nk hk']; exact nw.2.2.2.2 k
  have zf : hz (hsi (hsi (hsr (hnew qX2 105 36) s 3 (some (hz qX2))) s 4 0) s 5 (-1)) = hz qX2 + 1 := rfl
  have T0 := S2_0.keepR (er 0 (by decide)) (KL _ _ (by omega) (by omega)) (by rw [zf]; omega) (by rw [zf]; omega)
  have T1 := S2_1.keepR (er 1 (by decide)) (KL _ _ (by omega) (by omega)) (by rw [zf]; omega) (by rw [zf]; omega)
  have T2 := S2_2.keepR (er 2 (by decide)) (KL _ _ (by omega) (by omega)) (by rw [zf]; omega) (by rw [zf]; omega)
  have r3 : hr (hsi (hsi (hsr (hnew qX2 105 36) s 3 (some (hz qX2))) s 4 0) s 5 (-1)) s 3 = some (s + 615) := by rw [hr_hsi, hr_hsi, hr_hsr_eq, x2a]
  refine ⟨rfl, by rw [zf]; omega, by show hw qX2 + 36 = _; omega, KX2.tr ((KP.new (by omega)).tr ((KP.sr (Nat.le_refl _)).tr ((KP.si (Nat.le_refl _)).tr (KP.si (Nat.le_refl _))))), ⟨by rw [zf]; omega, by rw [zf]; omega, nw.1.trans x2k, T0.1, T1.1, T2.1, r3, ?_, ?_, T0.2.1, T1.2.1, T2.2.1⟩, T0, T1, T2, ?_, ?_⟩
  · rw [← x2a]; exact hnew_k (h := qX2) (kind := 105) (n := 36)
  · rw [← x2a]; exact hnew_n (h := qX2) (kind := 105) (n := 36)
  · simp [hi_hsi]
  · simp [hi_hsi]
