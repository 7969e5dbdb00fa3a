/-! An object with arrays of its own, by a table: T i = (field, kind, length) of array i -/
def TA (h0 h : XH) (a kc b k w : Nat) (T : Nat → Nat × Nat × Nat) (g : Nat → Int32) : Prop :=
  hz h = b + k ∧ a < b ∧ hw h = hw h0 + w ∧ KP h0 h a ∧ KR h0 h (a + 1) b ∧ hk h a = kc ∧ (∀ j, hi h a j = g j) ∧ (∀ j, (∀ i, i < k → (T i).1 ≠ j) → hr h a j = hr h0 a j) ∧ ∀ i, i < k → AR h a (T i).1 (b + i) (T i).2.1 (T i).2.2
theorem TA.nil {h0 : XH} {a kc b : Nat} {T : Nat → Nat × Nat × Nat} (hb : hz h0 = b) (ha : a < b) (hkc : hk h0 a = kc) : TA h0 h0 a kc b 0 0 T (hi h0 a) :=
  ⟨hb, ha, rfl, KP.rf, KR.rf, hkc, fun _ => rfl, fun _ _ => rfl, fun _ hi' => absurd hi' (Nat.not_lt_zero _)⟩
theorem TA.lt {h0 h : XH} {a kc b k w : Nat} {T : Nat → Nat × Nat × Nat} {g : Nat → Int32} (H : TA h0 h a kc b k w T g) : a < hz h := by
  obtain ⟨h1, h2, -⟩ := H; omega
theorem TA.kd {h0 h : XH} {a kc b k w : Nat} {T : Nat → Nat × Nat × Nat} {g : Nat → Int32} (H : TA h0 h a kc b k w T g) : hk h a = kc := H.2.2.2.2.2.1
theorem TA.arr {h0 h : XH} {a kc b k w k1 w1 f kd n : Nat} {T : Nat → Nat × Nat × Nat} {g : Nat → Int32} (H : TA h0 h a kc b k w T g) (ek : k1 = k + 1) (ew : w1 = w + n) (eT : T k = (f, kd, n)) (hne : ∀ i, i < k → (T i).1 ≠ f) : TA h0 (hsr (hnew h kd n) a f (some (hz h))) a kc b k1 w1 T g := by
  subst ek ew
  obtain ⟨c1, c2, c3, c4, c5, c6, c7, c8, c9⟩ := H
  have ha : a < hz h := by omega
  have N1 := hnew_at (h := h) (kind := kd) (n := n) ha
  refine ⟨?_, c2, ?_, c4.tr ((KP.new (by omega)).tr (KP.sr (Nat.le_refl _))), c5.tr ((KR.new (by omega)).tr (KR.sr (Or.inl (Nat.lt_succ_self _)))), ?_, fun j => ?_, fun j hj' => ?_, fun i hi' => ?_⟩
  · rw [hz_hsr, hnew_z]; omega
  · (rw [hw_hsr, hnew_w]) <;> omega
  · rw [hk_hsr]; exact N1.1.trans c6
  · rw [hi_hsr]; exact (N1.2.2.1 j).trans (c7 j)
  · have hjf : j ≠ f := fun e => hj' k (Nat.lt_succ_self _) (by rw [eT]; exact e.symm)
    rw [hr_hsr_nk hjf]; exact (N1.2.2.2.2 j).trans (c8 j fun i hi' => hj' i (by omega))
  · rcases Nat.lt_or_ge i k with q | q
    · exact (c9 i q).step (by omega) ha (hne i q)
    · have e : i = k := by omega
      subst e
      rw [eT, ← c1]; exact AR.made
theorem TA.int {h0 h : XH} {a kc b k w j : Nat} {v : Int32} {T : Nat → Nat × Nat × Nat} {g g1 : Nat → Int32} (H : TA h0 h a kc b k w T g) (eg : g1 = upd g j v) : TA h0 (hsi h a j v) a kc b k w T g1 := by
  subst eg
  obtain ⟨c1, c2, c3, c4, c5, c6, c7, c8, c9⟩ := H
  refine ⟨c1, c2, c3, c4.tr (KP.si (Nat.le_refl _)), c5.tr (KR.si (Or.inl (Nat.lt_succ_self _))), c6, fun i => ?_, c8, c9⟩
  rw [hi_hsi]; unfold upd
  by_cases e : i = j
  · subst e; simp
  · simp [e, c7]
def mTL : List (Nat × Nat × Nat) := [(1, 100, 4000), (3, 100, 4000), (4, 100, 4000), (8, 100, 4001), (9, 100, 4001), (10, 100, 4001), (11, 100, 4001), (17, 100, 40), (18, 100, 40), (19, 100, 40), (21, 100, 12), (22, 100, 12), (23, 100, 12), (24, 100, 144), (25, 100, 144), (26, 100, 144), (27, 100, 144), (28, 100, 12), (29, 100, 1536), (30, 100, 1536), (32, 100, 16), (33, 100, 16), (34, 100, 256), (35, 100, 256), (36, 100, 256), (37, 100, 256), (38, 100, 256), (39, 100, 256), (40, 101, 256), (42, 100, 8), (43, 100, 64), (44, 100, 64), (47, 100, 400), (48, 100, 400), (49, 100, 400), (54, 101, 600), (56, 100, 4300), (60, 100, 300), (61, 100, 300), (62, 100, 300), (63, 100, 300), (65, 100, 300), (66, 100, 300), (69, 103, 16), (70, 100, 32), (71, 100, 4000), (73, 100, 68), (74, 100, 4000), (79, 100, 4000), (83, 100, 100), (84, 100, 100), (85, 100, 100), (86, 100, 100)]
def mT (i : Nat) : Nat × Nat × Nat := mTL.getD i (0, 0, 0)
/-! The model's constructor -/
set_option maxRecDepth 20000 in
theorem k_mInit {l : Launch} {G : XG} {h : XH} {a d : Nat} (hz0 : hz h = a + 1) (ka : hk h a = 12) (hm : a + 1 + 53 ≤ 1000000) : XC l G xEX12_init (d + 1) [.ref a] h (fun v h2 => v = none ∧ TA h h2 a 12 (a + 1) 53 54196 mT (upd (hi h a) 67 (-1))) := by
  have ha1 : a < hz h := by omega
  have HT : TA h h a 12 (a + 1) 0 0 mT (hi h a) := TA.nil hz0 (Nat.lt_succ_self _) ka
  refine XC.init xnX12_init (Nat.le_of_ble_eq_true rfl) ?_
  refine XS.go (s_aloadn rfl rfl rfl) ?_
  refine XS.go (s_objInit rfl (lg_7 85 rfl rfl) (lg_1 33 rfl rfl) (lg_1 34 rfl rfl) (by omega) (Nat.le_of_ble_eq_true rfl)) ?_
  have hl0 := HT.lt
  have kx0 := HT.kd
  have hz0 : hz h < 1000000 := by have := HT.1; omega
  refine XS.go (s_aloadn rfl rfl rfl) ?_
  refine XS.go (s_sipush (v := 4000) rfl rfl) ?_
  refine XS.go (s_newi (N := 4000) rfl (by decide) rfl (by decide) hz0) ?_
  refine XS.go (s_putr rfl xf12_9 (Nat.lt_succ_of_lt hl0) ((hnew_at (h := h) (kind := 100) (n := 4000) hl0).1.trans kx0) (by decide) rfl (Or.inr ⟨rfl, rfl⟩)) ?_
  refine XR.gen (fun X => TA h X a 12 (a + 1) 1 4000 mT (hi h a)) (TA.arr HT rfl rfl rfl (by decide)) (fun qX0 HT0 => ?_)
  clear hl0 kx0 hz0
  have hl1 := HT0.lt
  have kx1 := HT0.kd
  have hz1 : hz qX0 < 1000000 := by have := HT0.1; omega
  refine XS.go (s_aloadn rfl rfl rfl) ?_
  refine XS.go (s_sipush (v := 4000) rfl rfl) ?_
  refine XS.go (s_newi (N := 4000) rfl (by decide) rfl (by decide) hz1) ?_
  refine XS.go (s_putr rfl xf12_13 (Nat.lt_succ_of_lt hl1) ((hnew_at (h := qX0) (kind := 100) (n := 4000) hl1).1.trans kx1) (by decide) rfl (Or.inr ⟨rfl, rfl⟩)) ?_
  refine XR.gen (fun X => TA h X a 12 (a + 1) 2 8000 mT (hi h a)) (TA.arr HT0 rfl rfl rfl (by decide)) (fun qX1 HT1 => ?_)
  clear hl1 kx1 hz1 HT0
  have hl2 := HT1.lt
  have kx2 := HT1.kd
  have hz2 : hz qX1 < 1000000 := by have := HT1.1; omega
  refine XS.go (s_aloadn rfl rfl rfl) ?_
  refine XS.go (s_sipush (v := 4000) rfl rfl) ?_
  refine XS.go (s_newi (N := 4000) rfl (by decide) rfl (by decide) hz2) ?_
  refine XS.go (s_putr rfl xf12_16 (Nat.lt_succ_of_lt hl2) ((hnew_at (h := qX1) (kind := 100) (n := 4000) hl2).1.trans kx2) (by decide) rfl (Or.inr ⟨rfl, rfl⟩)) ?_
  refine XR.gen (fun X => TA h X a 12 (a + 1) 3 12000 mT (hi h a)) (TA.arr HT1 rfl rfl rfl (by decide)) (fun qX2 HT2 => ?_)
  clear hl2 kx2 hz2 HT1
  have hl3 := HT2.lt
  have kx3 := HT2.kd
  have hz3 : hz qX2 < 1000000 := by have := HT2.1; omega
  refine XS.go (s_aloadn rfl rfl rfl) ?_
  refine XS.go (s_sipush (v := 4001) rfl rfl) ?_
  refine XS.go (s_newi (N := 4001) rfl (by decide) rfl (by decide) hz3) ?_
  refine XS.go (s_putr rfl xf12_19 (Nat.lt_succ_of_lt hl3) ((hnew_at (h := qX2) (kind := 100) (n := 4001) hl3).1.trans kx3) (by decide) rfl (Or.inr ⟨rfl, rfl⟩)) ?_
  refine XR.gen (fun X => TA h X a 12 (a + 1) 4 16001 mT (hi h a)) (TA.arr HT2 rfl rfl rfl (by decide)) (fun qX3 HT3 => ?_)
  clear hl3 kx3 hz3 HT2
  have hl4 := HT3.lt
  have kx4 := HT3.kd
  have hz4 : hz qX3 < 1000000 := by have := HT3.1; omega
  refine XS.go (s_aloadn rfl rfl rfl) ?_
  refine XS.go (s_sipush (v := 4001) rfl rfl) ?_
  refine XS.go (s_newi (N := 4001) rfl (by decide) rfl (by decide) hz4) ?_
  refine XS.go (s_putr rfl xf12_22 (Nat.lt_succ_of_lt hl4) ((hnew_at (h := qX3) (kind := 100) (n := 4001) hl4).1.trans kx4) (by decide) rfl (Or.inr ⟨rfl, rfl⟩)) ?_
  refine XR.gen (fun X => TA h X a 12 (a + 1) 5 20002 mT (hi h a)) (TA.arr HT3 rfl rfl rfl (by decide)) (fun qX4 HT4 => ?_)
  clear hl4 kx4 hz4 HT3
  have hl5 := HT4.lt
  have kx5 := HT4.kd
  have hz5 : hz qX4 < 1000000 := by have := HT4.1; omega
  refine XS.go (s_aloadn rfl rfl rfl) ?_
  refine XS.go (s_sipush (v := 4001) rfl rfl) ?_
  refine XS.go (s_newi (N := 4001) rfl (by decide) rfl (by decide) hz5) ?_
  refine XS.go (s_putr rfl xf12_25 (Nat.lt_succ_of_lt hl5) ((hnew_at (h := qX4) (kind := 100) (n := 4001) hl5).1.trans kx5) (by decide) rfl (Or.inr ⟨rfl, rfl⟩)) ?_
  refine XR.gen (fun X => TA h X a 12 (a + 1) 6 24003 mT (hi h a)) (TA.arr HT4 rfl rfl rfl (by decide)) (fun qX5 HT5 => ?_)
  clear hl5 kx5 hz5 HT4
  have hl6 := HT5.lt
  have kx6 := HT5.kd
  have hz6 : hz qX5 < 1000000 := by have := HT5.1; omega
  refine XS.go (s_aloadn rfl rfl rfl) ?_
  refine XS.go (s_sipush (v := 4001) rfl rfl) ?_
  refine XS.go (s_newi (N := 4001) rfl (by decide) rfl (by decide) hz6) ?_
  refine XS.go (s_putr rfl xf12_28 (Nat.lt_succ_of_lt hl6) ((hnew_at (h := qX5) (kind := 100) (n := 4001) hl6).1.trans kx6) (by decide) rfl (Or.inr ⟨rfl, rfl⟩)) ?_
  refine XR.gen (fun X => TA h X a 12 (a + 1) 7 28004 mT (hi h a)) (TA.arr HT5 rfl rfl rfl (by decide)) (fun qX6 HT6 => ?_)
  clear hl6 kx6 hz6 HT5
  have hl7 := HT6.lt
  have kx7 := HT6.kd
  have hz7 : hz qX6 < 1000000 := by have := HT6.1; omega
  refine XS.go (s_aloadn rfl rfl rfl) ?_
  refine XS.go (s_bipush (v := 40) rfl rfl) ?_
  refine XS.go (s_newi (N := 40) rfl (by decide) rfl (by decide) hz7) ?_
  refine XS.go (s_putr rfl xf12_31 (Nat.lt_succ_of_lt hl7) ((hnew_at (h := qX6) (kind := 100) (n := 40) hl7).1.trans kx7) (by decide) rfl (Or.inr ⟨rfl, rfl⟩)) ?_
  refine XR.gen (fun X => TA h X a 12 (a + 1) 8 28044 mT (hi h a)) (TA.arr HT6 rfl rfl rfl (by decide)) (fun qX7 HT7 => ?_)
  clear hl7 kx7 hz7 HT6
  have hl8 := HT7.lt
  have kx8 := HT7.kd
  have hz8 : hz qX7 < 1000000 := by have := HT7.1; omega
  refine XS.go (s_aloadn rfl rfl rfl) ?_
  refine XS.go (s_bipush (v := 40) rfl rfl) ?_
  refine XS.go (s_newi (N := 40) rfl (by decide) rfl (by decide) hz8) ?_
  refine XS.go (s_putr rfl xf12_34 (Nat.lt_succ_of_lt hl8) ((hnew_at (h := qX7) (kind := 100) (n := 40) hl8).1.trans kx8) (by decide) rfl (Or.inr ⟨rfl, rfl⟩)) ?_
  refine XR.gen (fun X => TA h X a 12 (a + 1) 9 28084 mT (hi h a)) (TA.arr HT7 rfl rfl rfl (by decide)) (fun qX8 HT8 => ?_)
  clear hl8 kx8 hz8 HT7
  have hl9 := HT8.lt
  have kx9 := HT8.kd
  have hz9 : hz qX8 < 1000000 := by have := HT8.1; omega
  refine XS.go (s_aloadn rfl rfl rfl) ?_
  refine XS.go (s_bipush (v := 40) rfl rfl) ?_
  refine XS.go (s_newi (N := 40) rfl (by decide) rfl (by decide) hz9) ?_
  refine XS.go (s_putr rfl xf12_37 (Nat.lt_succ_of_lt hl9) ((hnew_at (h := qX8) (kind := 100) (n := 40) hl9).1.trans kx9) (by decide) rfl (Or.inr ⟨rfl, rfl⟩)) ?_
  refine XR.gen (fun X => TA h X a 12 (a + 1) 10 28124 mT (hi h a)) (TA.arr HT8 rfl rfl rfl (by decide)) (fun qX9 HT9 => ?_)
  clear hl9 kx9 hz9 HT8
  have hl10 := HT9.lt
  have kx10 := HT9.kd
  have hz10 : hz qX9 < 1000000 := by have := HT9.1; omega
  refine XS.go (s_aloadn rfl rfl rfl) ?_
  refine XS.go (s_bipush (v := 12) rfl rfl) ?_
  refine XS.go (s_newi (N := 12) rfl (by decide) rfl (by decide) hz10) ?_
  refine XS.go (s_putr rfl xf12_40 (Nat.lt_succ_of_lt hl10) ((hnew_at (h := qX9) (kind := 100) (n := 12) hl10).1.trans kx10) (by decide) rfl (Or.inr ⟨rfl, rfl⟩)) ?_
  refine XR.gen (fun X => TA h X a 12 (a + 1) 11 28136 mT (hi h a)) (TA.arr HT9 rfl rfl rfl (by decide)) (fun qX10 HT10 => ?_)
  clear hl10 kx10 hz10 HT9
  have hl11 := HT10.lt
  have kx11 := HT10.kd
  have hz11 : hz qX10 < 1000000 := by have := HT10.1; omega
  refine XS.go (s_aloadn rfl rfl rfl) ?_
  refine XS.go (s_bipush (v := 12) rfl rfl) ?_
  refine XS.go (s_newi (N := 12) rfl (by decide) rfl (by decide) hz11) ?_
  refine XS.go (s_putr rfl xf12_43 (Nat.lt_succ_of_lt hl11) ((hnew_at (h := qX10) (kind := 100) (n := 12) hl11).1.trans kx11) (by decide) rfl (Or.inr ⟨rfl, rfl⟩)) ?_
  refine XR.gen (fun X => TA h X a 12 (a + 1) 12 28148 mT (hi h a)) (TA.arr HT10 rfl rfl rfl (by decide)) (fun qX11 HT11 => ?_)
  clear hl11 kx11 hz11 HT10
  have hl12 := HT11.lt
  have kx12 := HT11.kd
  have hz12 : hz qX11 < 1000000 := by have := HT11.1; omega
  refine XS.go (s_aloadn rfl rfl rfl) ?_
  refine XS.go (s_bipush (v := 12) rfl rfl) ?_
  refine XS.go (s_newi (N := 12) rfl (by decide) rfl (by decide) hz12) ?_
  refine XS.go (s_putr rfl xf12_46 (Nat.lt_succ_of_lt hl12) ((hnew_at (h := qX11) (kind := 100) (n := 12) hl12).1.trans kx12) (by decide) rfl (Or.inr ⟨rfl, rfl⟩)) ?_
  refine XR.gen (fun X => TA h X a 12 (a + 1) 13 28160 mT (hi h a)) (TA.arr HT11 rfl rfl rfl (by decide)) (fun qX12 HT12 => ?_)
  clear hl12 kx12 hz12 HT11
  have hl13 := HT12.lt
  have kx13 := HT12.kd
  have hz13 : hz qX12 < 1000000 := by have := HT12.1; omega
  refine XS.go (s_aloadn rfl rfl rfl) ?_
  refine XS.go (s_sipush (v := 144) rfl rfl) ?_
  refine XS.go (s_newi (N := 144) rfl (by decide) rfl (by decide) hz13) ?_
  refine XS.go (s_putr rfl xf12_49 (Nat.lt_succ_of_lt hl13) ((hnew_at (h := qX12) (kind := 100) (n := 144) hl13).1.trans kx13) (by decide) rfl (Or.inr ⟨rfl, rfl⟩)) ?_
  refine XR.gen (fun X => TA h X a 12 (a + 1) 14 28304 mT (hi h a)) (TA.arr HT12 rfl rfl rfl (by decide)) (fun qX13 HT13 => ?_)
  clear hl13 kx13 hz13 HT12
  have hl14 := HT13.lt
  have kx14 := HT13.kd
  have hz14 : hz qX13 < 1000000 := by have := HT13.1; omega
  refine XS.go (s_aloadn rfl rfl rfl) ?_
  refine XS.go (s_sipush (v := 144) rfl rfl) ?_
  refine XS.go (s_newi (N := 144) rfl (by decide) rfl (by decide) hz14) ?_
  refine XS.go (s_putr rfl xf12_52 (Nat.lt_succ_of_lt hl14) ((hnew_at (h := qX13) (kind := 100) (n := 144) hl14).1.trans kx14) (by decide) rfl (Or.inr ⟨rfl, rfl⟩)) ?_
  refine XR.gen (fun X => TA h X a 12 (a + 1) 15 28448 mT (hi h a)) (TA.arr HT13 rfl rfl rfl (by decide)) (fun qX14 HT14 => ?_)
  clear hl14 kx14 hz14 HT13
  have hl15 := HT14.lt
  have kx15 := HT14.kd
  have hz15 : hz qX14 < 1000000 := by have := HT14.1; omega
  refine XS.go (s_aloadn rfl rfl rfl) ?_
  refine XS.go (s_sipush (v := 144) rfl rfl) ?_
  refine XS.go (s_newi (N := 144) rfl (by decide) rfl (by decide) hz15) ?_
  refine XS.go (s_putr rfl xf12_55 (Nat.lt_succ_of_lt hl15) ((hnew_at (h := qX14) (kind := 100) (n := 144) hl15).1.trans kx15) (by decide) rfl (Or.inr ⟨rfl, rfl⟩)) ?_
  refine XR.gen (fun X => TA h X a 12 (a + 1) 16 28592 mT (hi h a)) (TA.arr HT14 rfl rfl rfl (by decide)) (fun qX15 HT15 => ?_)
  clear hl15 kx15 hz15 HT14
  have hl16 := HT15.lt
  have kx16 := HT15.kd
  have hz16 : hz qX15 < 1000000 := by have := HT15.1; omega
  refine XS.go (s_aloadn rfl rfl rfl) ?_
  refine XS.go (s_sipush (v := 144) rfl rfl) ?_
  refine XS.go (s_newi (N := 144) rfl (by decide) rfl (by decide) hz16) ?_
  refine XS.go (s_putr rfl xf12_58 (Nat.lt_succ_of_lt hl16) ((hnew_at (h := qX15) (kind := 100) (n := 144) hl16).1.trans kx16) (by decide) rfl (Or.inr ⟨rfl, rfl⟩)) ?_
  refine XR.gen (fun X => TA h X a 12 (a + 1) 17 28736 mT (hi h a)) (TA.arr HT15 rfl rfl rfl (by decide)) (fun qX16 HT16 => ?_)
  clear hl16 kx16 hz16 HT15
  have hl17 := HT16.lt
  have kx17 := HT16.kd
  have hz17 : hz qX16 < 1000000 := by have := HT16.1; omega
  refine XS.go (s_aloadn rfl rfl rfl) ?_
  refine XS.go (s_bipush (v := 12) rfl rfl) ?_
  refine XS.go (s_newi (N := 12) rfl (by decide) rfl (by decide) hz17) ?_
  refine XS.go (s_putr rfl xf12_61 (Nat.lt_succ_of_lt hl17) ((hnew_at (h := qX16) (kind := 100) (n := 12) hl17).1.trans kx17) (by decide) rfl (Or.inr ⟨rfl, rfl⟩)) ?_
  refine XR.gen (fun X => TA h X a 12 (a + 1) 18 28748 mT (hi h a)) (TA.arr HT16 rfl rfl rfl (by decide)) (fun qX17 HT17 => ?_)
  clear hl17 kx17 hz17 HT16
  have hl18 := HT17.lt
  have kx18 := HT17.kd
  have hz18 : hz qX17 < 1000000 := by have := HT17.1; omega
  refine XS.go (s_aloadn rfl rfl rfl) ?_
  refine XS.go (s_sipush (v := 1536) rfl rfl) ?_
  refine XS.go (s_newi (N := 1536) rfl (by decide) rfl (by decide) hz18) ?_
  refine XS.go (s_putr rfl xf12_64 (Nat.lt_succ_of_lt hl18) ((hnew_at (h := qX17) (kind := 100) (n := 1536) hl18).1.trans kx18) (by decide) rfl (Or.inr ⟨rfl, rfl⟩)) ?_
  refine XR.gen (fun X => TA h X a 12 (a + 1) 19 30284 mT (hi h a)) (TA.arr HT17 rfl rfl rfl (by decide)) (fun qX18 HT18 => ?_)
  clear hl18 kx18 hz18 HT17
  have hl19 := HT18.lt
  have kx19 := HT18.kd
  have hz19 : hz qX18 < 1000000 := by have := HT18.1; omega
  refine XS.go (s_aloadn rfl rfl rfl) ?_
  refine XS.go (s_sipush (v := 1536) rfl rfl) ?_
  refine XS.go (s_newi (N := 1536) rfl (by decide) rfl (by decide) hz19) ?_
  refine XS.go (s_putr rfl xf12_67 (Nat.lt_succ_of_lt hl19) ((hnew_at (h := qX18) (kind := 100) (n := 1536) hl19).1.trans kx19) (by decide) rfl (Or.inr ⟨rfl, rfl⟩)) ?_
  refine XR.gen (fun X => TA h X a 12 (a + 1) 20 31820 mT (hi h a)) (TA.arr HT18 rfl rfl rfl (by decide)) (fun qX19 HT19 => ?_)
  clear hl19 kx19 hz19 HT18
  have hl20 := HT19.lt
  have kx20 := HT19.kd
  have hz20 : hz qX19 < 1000000 := by have := HT19.1; omega
  refine XS.go (s_aloadn rfl rfl rfl) ?_
  refine XS.go (s_bipush (v := 16) rfl rfl) ?_
  refine XS.go (s_newi (N := 16) rfl (by decide) rfl (by decide) hz20) ?_
  refine XS.go (s_putr rfl xf12_70 (Nat.lt_succ_of_lt hl20) ((hnew_at (h := qX19) (kind := 100) (n := 16) hl20).1.trans kx20) (by decide) rfl (Or.inr ⟨rfl, rfl⟩)) ?_
  refine XR.gen (fun X => TA h X a 12 (a + 1) 21 31836 mT (hi h a)) (TA.arr HT19 rfl rfl rfl (by decide)) (fun qX20 HT20 => ?_)
  clear hl20 kx20 hz20 HT19
  have hl21 := HT20.lt
  have kx21 := HT20.kd
  have hz21 : hz qX20 < 1000000 := by have := HT20.1; omega
  refine XS.go (s_aloadn rfl rfl rfl) ?_
  refine XS.go (s_bipush (v := 16) rfl rfl) ?_
  refine XS.go (s_newi (N := 16) rfl (by decide) rfl (by decide) hz21) ?_
  refine XS.go (s_putr rfl xf12_73 (Nat.lt_succ_of_lt hl21) ((hnew_at (h := qX20) (kind := 100) (n := 16) hl21).1.trans kx21) (by decide) rfl (Or.inr ⟨rfl, rfl⟩)) ?_
  refine XR.gen (fun X => TA h X a 12 (a + 1) 22 31852 mT (hi h a)) (TA.arr HT20 rfl rfl rfl (by decide)) (fun qX21 HT21 => ?_)
  clear hl21 kx21 hz21 HT20
  have hl22 := HT21.lt
  have kx22 := HT21.kd
  have hz22 : hz qX21 < 1000000 := by have := HT21.1; omega
  refine XS.go (s_aloadn rfl rfl rfl) ?_
  refine XS.go (s_sipush (v := 256) rfl rfl) ?_
  refine XS.go (s_newi (N := 256) rfl (by decide) rfl (by decide) hz22) ?_
  refine XS.go (s_putr rfl xf12_76 (Nat.lt_succ_of_lt hl22) ((hnew_at (h := qX21) (kind := 100) (n := 256) hl22).1.trans kx22) (by decide) rfl (Or.inr ⟨rfl, rfl⟩)) ?_
  refine XR.gen (fun X => TA h X a 12 (a + 1) 23 32108 mT (hi h a)) (TA.arr HT21 rfl rfl rfl (by decide)) (fun qX22 HT22 => ?_)
  clear hl22 kx22 hz22 HT21
  have hl23 := HT22.lt
  have kx23 := HT22.kd
  have hz23 : hz qX22 < 1000000 := by have := HT22.1; omega
  refine XS.go (s_aloadn rfl rfl rfl) ?_
  refine XS.go (s_sipush (v := 256) rfl rfl) ?_
  refine XS.go (s_newi (N := 256) rfl (by decide) rfl (by decide) hz23) ?_
  refine XS.go (s_putr rfl xf12_79 (Nat.lt_succ_of_lt hl23) ((hnew_at (h := qX22) (kind := 100) (n := 256) hl23).1.trans kx23) (by decide) rfl (Or.inr ⟨rfl, rfl⟩)) ?_
  refine XR.gen (fun X => TA h X a 12 (a + 1) 24 32364 mT (hi h a)) (TA.arr HT22 rfl rfl rfl (by decide)) (fun qX23 HT23 => ?_)
  clear hl23 kx23 hz23 HT22
  have hl24 := HT23.lt
  have kx24 := HT23.kd
  have hz24 : hz qX23 < 1000000 := by have := HT23.1; omega
  refine XS.go (s_aloadn rfl rfl rfl) ?_
  refine XS.go (s_sipush (v := 256) rfl rfl) ?_
  refine XS.go (s_newi (N := 256) rfl (by decide) rfl (by decide) hz24) ?_
  refine XS.go (s_putr rfl xf12_82 (Nat.lt_succ_of_lt hl24) ((hnew_at (h := qX23) (kind := 100) (n := 256) hl24).1.trans kx24) (by decide) rfl (Or.inr ⟨rfl, rfl⟩)) ?_
  refine XR.gen (fun X => TA h X a 12 (a + 1) 25 32620 mT (hi h a)) (TA.arr HT23 rfl rfl rfl (by decide)) (fun qX24 HT24 => ?_)
  clear hl24 kx24 hz24 HT23
  have hl25 := HT24.lt
  have kx25 := HT24.kd
  have hz25 : hz qX24 < 1000000 := by have := HT24.1; omega
  refine XS.go (s_aloadn rfl rfl rfl) ?_
  refine XS.go (s_sipush (v := 256) rfl rfl) ?_
  refine XS.go (s_newi (N := 256) rfl (by decide) rfl (by decide) hz25) ?_
  refine XS.go (s_putr rfl xf12_85 (Nat.lt_succ_of_lt hl25) ((hnew_at (h := qX24) (kind := 100) (n := 256) hl25).1.trans kx25) (by decide) rfl (Or.inr ⟨rfl, rfl⟩)) ?_
  refine XR.gen (fun X => TA h X a 12 (a + 1) 26 32876 mT (hi h a)) (TA.arr HT24 rfl rfl rfl (by decide)) (fun qX25 HT25 => ?_)
  clear hl25 kx25 hz25 HT24
  have hl26 := HT25.lt
  have kx26 := HT25.kd
  have hz26 : hz qX25 < 1000000 := by have := HT25.1; omega
  refine XS.go (s_aloadn rfl rfl rfl) ?_
  refine XS.go (s_sipush (v := 256) rfl rfl) ?_
  refine XS.go (s_newi (N := 256) rfl (by decide) rfl (by decide) hz26) ?_
  refine XS.go (s_putr rfl xf12_88 (Nat.lt_succ_of_lt hl26) ((hnew_at (h := qX25) (kind := 100) (n := 256) hl26).1.trans kx26) (by decide) rfl (Or.inr ⟨rfl, rfl⟩)) ?_
  refine XR.gen (fun X => TA h X a 12 (a + 1) 27 33132 mT (hi h a)) (TA.arr HT25 rfl rfl rfl (by decide)) (fun qX26 HT26 => ?_)
  clear hl26 kx26 hz26 HT25
  have hl27 := HT26.lt
  have kx27 := HT26.kd
  have hz27 : hz qX26 < 1000000 := by have := HT26.1; omega
  refine XS.go (s_aloadn rfl rfl rfl) ?_
  refine XS.go (s_sipush (v := 256) rfl rfl) ?_
  refine XS.go (s_newi (N := 256) rfl (by decide) rfl (by decide) hz27) ?_
  refine XS.go (s_putr rfl xf12_91 (Nat.lt_succ_of_lt hl27) ((hnew_at (h := qX26) (kind := 100) (n := 256) hl27).1.trans kx27) (by decide) rfl (Or.inr ⟨rfl, rfl⟩)) ?_
  refine XR.gen (fun X => TA h X a 12 (a + 1) 28 33388 mT (hi h a)) (TA.arr HT26 rfl rfl rfl (by decide)) (fun qX27 HT27 => ?_)
  clear hl27 kx27 hz27 HT26
  have hl28 := HT27.lt
  have kx28 := HT27.kd
  have hz28 : hz qX27 < 1000000 := by have := HT27.1; omega
  refine XS.go (s_aloadn rfl rfl rfl) ?_
  refine XS.go (s_sipush (v := 256) rfl rfl) ?_
  refine XS.go (s_newj (N := 256) rfl (by decide) rfl (by decide) hz28) ?_
  refine XS.go (s_putr rfl xf12_94 (Nat.lt_succ_of_lt hl28) ((hnew_at (h := qX27) (kind := 101) (n := 256) hl28).1.trans kx28) (by decide) rfl (Or.inr ⟨rfl, rfl⟩)) ?_
  refine XR.gen (fun X => TA h X a 12 (a + 1) 29 33644 mT (hi h a)) (TA.arr HT27 rfl rfl rfl (by decide)) (fun qX28 HT28 => ?_)
  clear hl28 kx28 hz28 HT27
  have hl29 := HT28.lt
  have kx29 := HT28.kd
  have hz29 : hz qX28 < 1000000 := by have := HT28.1; omega
  refine XS.go (s_aloadn rfl rfl rfl) ?_
  refine XS.go (s_bipush (v := 8) rfl rfl) ?_
  refine XS.go (s_newi (N := 8) rfl (by decide) rfl (by decide) hz29) ?_
  refine XS.go (s_putr rfl xf12_98 (Nat.lt_succ_of_lt hl29) ((hnew_at (h := qX28) (kind := 100) (n := 8) hl29).1.trans kx29) (by decide) rfl (Or.inr ⟨rfl, rfl⟩)) ?_
  refine XR.gen (fun X => TA h X a 12 (a + 1) 30 33652 mT (hi h a)) (TA.arr HT28 rfl rfl rfl (by decide)) (fun qX29 HT29 => ?_)
  clear hl29 kx29 hz29 HT28
  have hl30 := HT29.lt
  have kx30 := HT29.kd
  have hz30 : hz qX29 < 1000000 := by have := HT29.1; omega
  refine XS.go (s_aloadn rfl rfl rfl) ?_
  refine XS.go (s_bipush (v := 64) rfl rfl) ?_
  refine XS.go (s_newi (N := 64) rfl (by decide) rfl (by decide) hz30) ?_
  refine XS.go (s_putr rfl xf12_101 (Nat.lt_succ_of_lt hl30) ((hnew_at (h := qX29) (kind := 100) (n := 64) hl30).1.trans kx30) (by decide) rfl (Or.inr ⟨rfl, rfl⟩)) ?_
  refine XR.gen (fun X => TA h X a 12 (a + 1) 31 33716 mT (hi h a)) (TA.arr HT29 rfl rfl rfl (by decide)) (fun qX30 HT30 => ?_)
  clear hl30 kx30 hz30 HT29
  have hl31 := HT30.lt
  have kx31 := HT30.kd
  have hz31 : hz qX30 < 1000000 := by have := HT30.1; omega
  refine XS.go (s_aloadn rfl rfl rfl) ?_
  refine XS.go (s_bipush (v := 64) rfl rfl) ?_
  refine XS.go (s_newi (N := 64) rfl (by decide) rfl (by decide) hz31) ?_
  refine XS.go (s_putr rfl xf12_104 (Nat.lt_succ_of_lt hl31) ((hnew_at (h := qX30) (kind := 100) (n := 64) hl31).1.trans kx31) (by decide) rfl (Or.inr ⟨rfl, rfl⟩)) ?_
  refine XR.gen (fun X => TA h X a 12 (a + 1) 32 33780 mT (hi h a)) (TA.arr HT30 rfl rfl rfl (by decide)) (fun qX31 HT31 => ?_)
  clear hl31 kx31 hz31 HT30
  have hl32 := HT31.lt
  have kx32 := HT31.kd
  have hz32 : hz qX31 < 1000000 := by have := HT31.1; omega
  refine XS.go (s_aloadn rfl rfl rfl) ?_
  refine XS.go (s_sipush (v := 400) rfl rfl) ?_
  refine XS.go (s_newi (N := 400) rfl (by decide) rfl (by decide) hz32) ?_
  refine XS.go (s_putr rfl xf12_107 (Nat.lt_succ_of_lt hl32) ((hnew_at (h := qX31) (kind := 100) (n := 400) hl32).1.trans kx32) (by decide) rfl (Or.inr ⟨rfl, rfl⟩)) ?_
  refine XR.gen (fun X => TA h X a 12 (a + 1) 33 34180 mT (hi h a)) (TA.arr HT31 rfl rfl rfl (by decide)) (fun qX32 HT32 => ?_)
  clear hl32 kx32 hz32 HT31
  have hl33 := HT32.lt
  have kx33 := HT32.kd
  have hz33 : hz qX32 < 1000000 := by have := HT32.1; omega
  refine XS.go (s_aloadn rfl rfl rfl) ?_
  refine XS.go (s_sipush (v := 400) rfl rfl) ?_
  refine XS.go (s_newi (N := 400) rfl (by decide) rfl (by decide) hz33) ?_
  refine XS.go (s_putr rfl xf12_110 (Nat.lt_succ_of_lt hl33) ((hnew_at (h := qX32) (kind := 100) (n := 400) hl33).1.trans kx33) (by decide) rfl (Or.inr ⟨rfl, rfl⟩)) ?_
  refine XR.gen (fun X => TA h X a 12 (a + 1) 34 34580 mT (hi h a)) (TA.arr HT32 rfl rfl rfl (by decide)) (fun qX33 HT33 => ?_)
  clear hl33 kx33 hz33 HT32
  have hl34 := HT33.lt
  have kx34 := HT33.kd
  have hz34 : hz qX33 < 1000000 := by have := HT33.1; omega
  refine XS.go (s_aloadn rfl rfl rfl) ?_
  refine XS.go (s_sipush (v := 400) rfl rfl) ?_
  refine XS.go (s_newi (N := 400) rfl (by decide) rfl (by decide) hz34) ?_
  refine XS.go (s_putr rfl xf12_113 (Nat.lt_succ_of_lt hl34) ((hnew_at (h := qX33) (kind := 100) (n := 400) hl34).1.trans kx34) (by decide) rfl (Or.inr ⟨rfl, rfl⟩)) ?_
  refine XR.gen (fun X => TA h X a 12 (a + 1) 35 34980 mT (hi h a)) (TA.arr HT33 rfl rfl rfl (by decide)) (fun qX34 HT34 => ?_)
  clear hl34 kx34 hz34 HT33
  have hl35 := HT34.lt
  have kx35 := HT34.kd
  have hz35 : hz qX34 < 1000000 := by have := HT34.1; omega
  refine XS.go (s_aloadn rfl rfl rfl) ?_
  refine XS.go (s_sipush (v := 600) rfl rfl) ?_
  refine XS.go (s_newj (N := 600) rfl (by decide) rfl (by decide) hz35) ?_
  refine XS.go (s_putr rfl xf12_116 (Nat.lt_succ_of_lt hl35) ((hnew_at (h := qX34) (kind := 101) (n := 600) hl35).1.trans kx35) (by decide) rfl (Or.inr ⟨rfl, rfl⟩)) ?_
  refine XR.gen (fun X => TA h X a 12 (a + 1) 36 35580 mT (hi h a)) (TA.arr HT34 rfl rfl rfl (by decide)) (fun qX35 HT35 => ?_)
  clear hl35 kx35 hz35 HT34
  have hl36 := HT35.lt
  have kx36 := HT35.kd
  have hz36 : hz qX35 < 1000000 := by have := HT35.1; omega
  refine XS.go (s_aloadn rfl rfl rfl) ?_
  refine XS.go (s_sipush (v := 4300) rfl rfl) ?_
  refine XS.go (s_newi (N := 4300) rfl (by decide) rfl (by decide) hz36) ?_
  refine XS.go (s_putr rfl xf12_119 (Nat.lt_succ_of_lt hl36) ((hnew_at (h := qX35) (kind := 100) (n := 4300) hl36).1.trans kx36) (by decide) rfl (Or.inr ⟨rfl, rfl⟩)) ?_
  refine XR.gen (fun X => TA h X a 12 (a + 1) 37 39880 mT (hi h a)) (TA.arr HT35 rfl rfl rfl (by decide)) (fun qX36 HT36 => ?_)
  clear hl36 kx36 hz36 HT35
  have hl37 := HT36.lt
  have kx37 := HT36.kd
  have hz37 : hz qX36 < 1000000 := by have := HT36.1; omega
  refine XS.go (s_aloadn rfl rfl rfl) ?_
  refine XS.go (s_sipush (v := 300) rfl rfl) ?_
  refine XS.go (s_newi (N := 300) rfl (by decide) rfl (by decide) hz37) ?_
  refine XS.go (s_putr rfl xf12_122 (Nat.lt_succ_of_lt hl37) ((hnew_at (h := qX36) (kind := 100) (n := 300) hl37).1.trans kx37) (by decide) rfl (Or.inr ⟨rfl, rfl⟩)) ?_
  refine XR.gen (fun X => TA h X a 12 (a + 1) 38 40180 mT (hi h a)) (TA.arr HT36 rfl rfl rfl (by decide)) (fun qX37 HT37 => ?_)
  clear hl37 kx37 hz37 HT36
  have hl38 := HT37.lt
  have kx38 := HT37.kd
  have hz38 : hz qX37 < 1000000 := by have := HT37.1; omega
  refine XS.go (s_aloadn rfl rfl rfl) ?_
  refine XS.go (s_sipush (v := 300) rfl rfl) ?_
  refine XS.go (s_newi (N := 300) rfl (by decide) rfl (by decide) hz38) ?_
  refine XS.go (s_putr rfl xf12_125 (Nat.lt_succ_of_lt hl38) ((hnew_at (h := qX37) (kind := 100) (n := 300) hl38).1.trans kx38) (by decide) rfl (Or.inr ⟨rfl, rfl⟩)) ?_
  refine XR.gen (fun X => TA h X a 12 (a + 1) 39 40480 mT (hi h a)) (TA.arr HT37 rfl rfl rfl (by decide)) (fun qX38 HT38 => ?_)
  clear hl38 kx38 hz38 HT37
  have hl39 := HT38.lt
  have kx39 := HT38.kd
  have hz39 : hz qX38 < 1000000 := by have := HT38.1; omega
  refine XS.go (s_aloadn rfl rfl rfl) ?_
  refine XS.go (s_sipush (v := 300) rfl rfl) ?_
  refine XS.go (s_newi (N := 300) rfl (by decide) rfl (by decide) hz39) ?_
  refine XS.go (s_putr rfl xf12_128 (Nat.lt_succ_of_lt hl39) ((hnew_at (h := qX38) (kind := 100) (n := 300) hl39).1.trans kx39) (by decide) rfl (Or.inr ⟨rfl, rfl⟩)) ?_
  refine XR.gen (fun X => TA h X a 12 (a + 1) 40 40780 mT (hi h a)) (TA.arr HT38 rfl rfl rfl (by decide)) (fun qX39 HT39 => ?_)
  clear hl39 kx39 hz39 HT38
  have hl40 := HT39.lt
  have kx40 := HT39.kd
  have hz40 : hz qX39 < 1000000 := by have := HT39.1; omega
  refine XS.go (s_aloadn rfl rfl rfl) ?_
  refine XS.go (s_sipush (v := 300) rfl rfl) ?_
  refine XS.go (s_newi (N := 300) rfl (by decide) rfl (by decide) hz40) ?_
  refine XS.go (s_putr rfl xf12_131 (Nat.lt_succ_of_lt hl40) ((hnew_at (h := qX39) (kind := 100) (n := 300) hl40).1.trans kx40) (by decide) rfl (Or.inr ⟨rfl, rfl⟩)) ?_
  refine XR.gen (fun X => TA h X a 12 (a + 1) 41 41080 mT (hi h a)) (TA.arr HT39 rfl rfl rfl (by decide)) (fun qX40 HT40 => ?_)
  clear hl40 kx40 hz40 HT39
  have hl41 := HT40.lt
  have kx41 := HT40.kd
  have hz41 : hz qX40 < 1000000 := by have := HT40.1; omega
  refine XS.go (s_aloadn rfl rfl rfl) ?_
  refine XS.go (s_sipush (v := 300) rfl rfl) ?_
  refine XS.go (s_newi (N := 300) rfl (by decide) rfl (by decide) hz41) ?_
  refine XS.go (s_putr rfl xf12_134 (Nat.lt_succ_of_lt hl41) ((hnew_at (h := qX40) (kind := 100) (n := 300) hl41).1.trans kx41) (by decide) rfl (Or.inr ⟨rfl, rfl⟩)) ?_
  refine XR.gen (fun X => TA h X a 12 (a + 1) 42 41380 mT (hi h a)) (TA.arr HT40 rfl rfl rfl (by decide)) (fun qX41 HT41 => ?_)
  clear hl41 kx41 hz41 HT40
  have hl42 := HT41.lt
  have kx42 := HT41.kd
  have hz42 : hz qX41 < 1000000 := by have := HT41.1; omega
  refine XS.go (s_aloadn rfl rfl rfl) ?_
  refine XS.go (s_sipush (v := 300) rfl rfl) ?_
  refine XS.go (s_newi (N := 300) rfl (by decide) rfl (by decide) hz42) ?_
  refine XS.go (s_putr rfl xf12_137 (Nat.lt_succ_of_lt hl42) ((hnew_at (h := qX41) (kind := 100) (n := 300) hl42).1.trans kx42) (by decide) rfl (Or.inr ⟨rfl, rfl⟩)) ?_
  refine XR.gen (fun X => TA h X a 12 (a + 1) 43 41680 mT (hi h a)) (TA.arr HT41 rfl rfl rfl (by decide)) (fun qX42 HT42 => ?_)
  clear hl42 kx42 hz42 HT41
  have hl43 := HT42.lt
  have kx43 := HT42.kd
  refine XS.go (s_aloadn rfl rfl rfl) ?_
  refine XS.go (s_iconst (v := (-1)) rfl rfl) ?_
  refine XS.go (s_puti rfl xf12_140 hl43 kx43 (by decide) rfl (Or.inl rfl)) ?_
  refine XR.gen (fun X => TA h X a 12 (a + 1) 43 41680 mT (upd (hi h a) 67 (-1))) (TA.int HT42 rfl) (fun qX43 HT43 => ?_)
  clear hl43 kx43 HT42
  have hl44 := HT43.lt
  have kx44 := HT43.kd
  have hz44 : hz qX43 < 1000000 := by have := HT43.1; omega
  refine XS.go (s_aloadn rfl rfl rfl) ?_
  refine XS.go (s_bipush (v := 16) rfl rfl) ?_
  refine XS.go (s_newz (N := 16) rfl (by decide) rfl (by decide) hz44) ?_
  refine XS.go (s_putr rfl xf12_144 (Nat.lt_succ_of_lt hl44) ((hnew_at (h := qX43) (kind := 103) (n := 16) hl44).1.trans kx44) (by decide) rfl (Or.inr ⟨rfl, rfl⟩)) ?_
  refine XR.gen (fun X => TA h X a 12 (a + 1) 44 41696 mT (upd (hi h a) 67 (-1))) (TA.arr HT43 rfl rfl rfl (by decide)) (fun qX44 HT44 => ?_)
  clear hl44 kx44 hz44 HT43
  have hl45 := HT44.lt
  have kx45 := HT44.kd
  have hz45 : hz qX44 < 1000000 := by have := HT44.1; omega
  refine XS.go (s_aloadn rfl rfl rfl) ?_
  refine XS.go (s_bipush (v := 32) rfl rfl) ?_
  refine XS.go (s_newi (N := 32) rfl (by decide) rfl (by decide) hz45) ?_
  refine XS.go (s_putr rfl xf12_148 (Nat.lt_succ_of_lt hl45) ((hnew_at (h := qX44) (kind := 100) (n := 32) hl45).1.trans kx45) (by decide) rfl (Or.inr ⟨rfl, rfl⟩)) ?_
  refine XR.gen (fun X => TA h X a 12 (a + 1) 45 41728 mT (upd (hi h a) 67 (-1))) (TA.arr HT44 rfl rfl rfl (by decide)) (fun qX45 HT45 => ?_)
  clear hl45 kx45 hz45 HT44
  have hl46 := HT45.lt
  have kx46 := HT45.kd
  have hz46 : hz qX45 < 1000000 := by have := HT45.1; omega
  refine XS.go (s_aloadn rfl rfl rfl) ?_
  refine XS.go (s_sipush (v := 4000) rfl rfl) ?_
  refine XS.go (s_newi (N := 4000) rfl (by decide) rfl (by decide) hz46) ?_
  refine XS.go (s_putr rfl xf12_151 (Nat.lt_succ_of_lt hl46) ((hnew_at (h := qX45) (kind := 100) (n := 4000) hl46).1.trans kx46) (by decide) rfl (Or.inr ⟨rfl, rfl⟩)) ?_
  refine XR.gen (fun X => TA h X a 12 (a + 1) 46 45728 mT (upd (hi h a) 67 (-1))) (TA.arr HT45 rfl rfl rfl (by decide)) (fun qX46 HT46 => ?_)
  clear hl46 kx46 hz46 HT45
  have hl47 := HT46.lt
  have kx47 := HT46.kd
  have hz47 : hz qX46 < 1000000 := by have := HT46.1; omega
  refine XS.go (s_aloadn rfl rfl rfl) ?_
  refine XS.go (s_bipush (v := 68) rfl rfl) ?_
  refine XS.go (s_newi (N := 68) rfl (by decide) rfl (by decide) hz47) ?_
  refine XS.go (s_putr rfl xf12_154 (Nat.lt_succ_of_lt hl47) ((hnew_at (h := qX46) (kind := 100) (n := 68) hl47).1.trans kx47) (by decide) rfl (Or.inr ⟨rfl, rfl⟩)) ?_
  refine XR.gen (fun X => TA h X a 12 (a + 1) 47 45796 mT (upd (hi h a) 67 (-1))) (TA.arr HT46 rfl rfl rfl (by decide)) (fun qX47 HT47 => ?_)
  clear hl47 kx47 hz47 HT46
  have hl48 := HT47.lt
  have kx48 := HT47.kd
  have hz48 : hz qX47 < 1000000 := by have := HT47.1; omega
  refine XS.go (s_aloadn rfl rfl rfl) ?_
  refine XS.go (s_sipush (v := 4000) rfl rfl) ?_
  refine XS.go (s_newi (N := 4000) rfl (by decide) rfl (by decide) hz48) ?_
  refine XS.go (s_putr rfl xf12_157 (Nat.lt_succ_of_lt hl48) ((hnew_at (h := qX47) (kind := 100) (n := 4000) hl48).1.trans kx48) (by decide) rfl (Or.inr ⟨rfl, rfl⟩)) ?_
  refine XR.gen (fun X => TA h X a 12 (a + 1) 48 49796 mT (upd (hi h a) 67 (-1))) (TA.arr HT47 rfl rfl rfl (by decide)) (fun qX48 HT48 => ?_)
  clear hl48 kx48 hz48 HT47
  have hl49 := HT48.lt
  have kx49 := HT48.kd
  have hz49 : hz qX48 < 1000000 := by have := HT48.1; omega
  refine XS.go (s_aloadn rfl rfl rfl) ?_
  refine XS.go (s_sipush (v := 4000) rfl rfl) ?_
  refine XS.go (s_newi (N := 4000) rfl (by decide) rfl (by decide) hz49) ?_
  refine XS.go (s_putr rfl xf12_160 (Nat.lt_succ_of_lt hl49) ((hnew_at (h := qX48) (kind := 100) (n := 4000) hl49).1.trans kx49) (by decide) rfl (Or.inr ⟨rfl, rfl⟩)) ?_
  refine XR.gen (fun X => TA h X a 12 (a + 1) 49 53796 mT (upd (hi h a) 67 (-1))) (TA.arr HT48 rfl rfl rfl (by decide)) (fun qX49 HT49 => ?_)
  clear hl49 kx49 hz49 HT48
  have hl50 := HT49.lt
  have kx50 := HT49.kd
  have hz50 : hz qX49 < 1000000 := by have := HT49.1; omega
  refine XS.go (s_aloadn rfl rfl rfl) ?_
  refine XS.go (s_bipush (v := 100) rfl rfl) ?_
  refine XS.go (s_newi (N := 100) rfl (by decide) rfl (by decide) hz50) ?_
  refine XS.go (s_putr rfl xf12_163 (Nat.lt_succ_of_lt hl50) ((hnew_at (h := qX49) (kind := 100) (n := 100) hl50).1.trans kx50) (by decide) rfl (Or.inr ⟨rfl, rfl⟩)) ?_
  refine XR.gen (fun X => TA h X a 12 (a + 1) 50 53896 mT (upd (hi h a) 67 (-1))) (TA.arr HT49 rfl rfl rfl (by decide)) (fun qX50 HT50 => ?_)
  clear hl50 kx50 hz50 HT49
  have hl51 := HT50.lt
  have kx51 := HT50.kd
  have hz51 : hz qX50 < 1000000 := by have := HT50.1; omega
  refine XS.go (s_aloadn rfl rfl rfl) ?_
  refine XS.go (s_bipush (v := 100) rfl rfl) ?_
  refine XS.go (s_newi (N := 100) rfl (by decide) rfl (by decide) hz51) ?_
  refine XS.go (s_putr rfl xf12_166 (Nat.lt_succ_of_lt hl51) ((hnew_at (h := qX50) (kind := 100) (n := 100) hl51).1.trans kx51) (by decide) rfl (Or.inr ⟨rfl, rfl⟩)) ?_
  refine XR.gen (fun X => TA h X a 12 (a + 1) 51 53996 mT (upd (hi h a) 67 (-1))) (TA.arr HT50 rfl rfl rfl (by decide)) (fun qX51 HT51 => ?_)
  clear hl51 kx51 hz51 HT50
  have hl52 := HT51.lt
  have kx52 := HT51.kd
  have hz52 : hz qX51 < 1000000 := by have := HT51.1; omega
  refine XS.go (s_aloadn rfl rfl rfl) ?_
  refine XS.go (s_bipush (v := 100) rfl rfl) ?_
  refine XS.go (s_newi (N := 100) rfl (by decide) rfl (by decide) hz52) ?_
  refine XS.go (s_putr rfl xf12_169 (Nat.lt_succ_of_lt hl52) ((hnew_at (h := qX51) (kind := 100) (n := 100) hl52).1.trans kx52) (by decide) rfl (Or.inr ⟨rfl, rfl⟩)) ?_
  refine XR.gen (fun X => TA h X a 12 (a + 1) 52 54096 mT (upd (hi h a) 67 (-1))) (TA.arr HT51 rfl rfl rfl (by decide)) (fun qX52 HT52 => ?_)
  clear hl52 kx52 hz52 HT51
  have hl53 := HT52.lt
  have kx53 := HT52.kd
  have hz53 : hz qX52 < 1000000 := by have := HT52.1; omega
  refine XS.go (s_aloadn rfl rfl rfl) ?_
  refine XS.go (s_bipush (v := 100) rfl rfl) ?_
  refine XS.go (s_newi (N := 100) rfl (by decide) rfl (by decide) hz53) ?_
  refine XS.go (s_putr rfl xf12_172 (Nat.lt_succ_of_lt hl53) ((hnew_at (h := qX52) (kind := 100) (n := 100) hl53).1.trans kx53) (by decide) rfl (Or.inr ⟨rfl, rfl⟩)) ?_
  refine XR.gen (fun X => TA h X a 12 (a + 1) 53 54196 mT (upd (hi h a) 67 (-1))) (TA.arr HT52 rfl rfl rfl (by decide)) (fun qX53 HT53 => ?_)
  clear hl53 kx53 hz53 HT52
  exact XR.retv rfl rfl (fun hret => ⟨_, hret, rfl, HT53⟩)
def uTL : List (Nat × Nat × Nat) := [(3, 100, 300), (4, 100, 300), (5, 100, 300), (6, 100, 300), (8, 100, 300), (12, 103, 16), (13, 100, 32), (14, 100, 34)]
def uT (i : Nat) : Nat × Nat × Nat := uTL.getD i (0, 0, 0)
/-! Builder's constructor -/
def BU (h : XH) (a : Nat) : Prop := a + 11 ≤ hz h ∧ hz h ≤ 1000000 ∧ hk h a = 0 ∧ hr h a 0 = some (a + 1) ∧ BY h (a + 1) (a + 2) ∧ ∀ i, i < 8 → AR h a (uT i).1 (a + 3 + i) (uT i).2.1 (uT i).2.2
set_option maxRecDepth 20000 in
theorem k_uInit {l : Launch} {G : XG} {h : XH} {a d : Nat} (hz0 : hz h = a + 1) (ka : hk h a = 0) (z0 : ∀ j, hi h a j = 0) (hm : a + 11 ≤ 1000000) : XC l G xEX0_init (d + 2) [.ref a] h (fun v h2 => v = none ∧ hz h2 = a + 11 ∧ hw h2 = hw h + 5584 ∧ KP h h2 a ∧ BU h2 a ∧ hi h2 (a + 1) 1 = 0 ∧ ∀ j, hi h2 a j = (upd (upd (upd (upd (upd (upd (upd (fun _ => 0) 1 (0)) 2 (4)) 7 (0)) 9 (0)) 10 (-1)) 11 (0)) 15 (0)) j) := by
  have ha1 : a < hz h := by omega
  refine XC.init xnX0_init (Nat.le_of_ble_eq_true rfl) ?_
  refine XS.go (s_aloadn rfl rfl rfl) ?_
  refine XS.go (s_objInit rfl (lg_2 46 rfl rfl) (lg_1 33 rfl rfl) (lg_1 34 rfl rfl) (by omega) (Nat.le_of_ble_eq_true rfl)) ?_
  refine XS.go (s_aloadn rfl rfl rfl) ?_
  refine XS.go (s_new (ci := 1) rfl (lg_2 47 rfl rfl) (by decide) rfl (show hz h < 1000000 by omega)) ?_
  refine XS.go (s_dup rfl rfl) ?_
  refine r_callin rfl xnX1_init rfl (List.mem_of_getElem? (i := 6) rfl) (k_bInit (h := hnew h 1 2) (b := hz h) (d := d) (Nat.lt_succ_self _) (hnew_k (h := h) (kind := 1) (n := 2)) (show hz h + 1 < 1000000 by omega)) rfl rfl (by omega) (by decide) (Nat.le_of_ble_eq_true rfl) ?_
  rintro _ _ ⟨rfl, rfl⟩
  refine XS.go (s_putr rfl xf0_12 (show a < hz h + 2 by omega) ((hnew_at (h := hnew h 1 2) (kind := 102) (n := 4000) (show a < hz h + 1 by omega)).1.trans ((hnew_at (h := h) (kind := 1) (n := 2) ha1).1.trans ka)) (by decide) rfl (Or.inr ⟨rfl, rfl⟩)) ?_
  obtain ⟨y1, y2, y3, y4, y5, y6, y7, y8, y9, -⟩ := BY.made (k := 0) ha1 (by omega) _ rfl
  refine XR.gen (fun X => hz X = a + 3 ∧ hw X = hw h + 4002 ∧ KP h X a ∧ hk X a = 0 ∧ (∀ j, hi X a j = 0) ∧ hr X a 0 = some (a + 1) ∧ BY X (a + 1) (a + 2) ∧ hi X (a + 1) 1 = 0) ⟨y1.trans (by omega), y2, y3, y4.trans ka, fun j => (y6 j).trans (z0 j), by rw [show a + 1 = hz h by omega, show a + 2 = hz h + 1 by omega]; exact ⟨y7, y8, y9⟩⟩ (fun qX hX => ?_)
  obtain ⟨xa, xb, KX, xk, xi, xr, xB, xl⟩ := hX
  clear y1 y2 y3 y4 y5 y6 y7 y8 y9
  have HT : TA qX qX a 0 (a + 3) 0 0 uT (hi qX a) := TA.nil xa (by omega) xk
  have hl0 := HT.lt
  have kx0 := HT.kd
  refine XS.go (s_aloadn rfl rfl rfl) ?_
  refine XS.go (s_iconst (v := 0) rfl rfl) ?_
  refine XS.go (s_puti rfl xf0_18 hl0 kx0 (by decide) rfl (Or.inl rfl)) ?_
  refine XR.gen (fun X => TA qX X a 0 (a + 3) 0 0 uT (upd (hi qX a) 1 (0))) (TA.int HT rfl) (fun qX0 HT0 => ?_)
  clear hl0 kx0
  have hl1 := HT0.lt
  have kx1 := HT0.kd
  refine XS.go (s_aloadn rfl rfl rfl) ?_
  refine XS.go (s_iconst (v := 4) rfl rfl) ?_
  refine XS.go (s_puti rfl xf0_22 hl1 kx1 (by decide) rfl (Or.inl rfl)) ?_
  refine XR.gen (fun X => TA qX X a 0 (a + 3) 0 0 uT (upd (upd (hi qX a) 1 (0)) 2 (4))) (TA.int HT0 rfl) (fun qX1 HT1 => ?_)
  clear hl1 kx1 HT0
  have hl2 := HT1.lt
  have kx2 := HT1.kd
  have hz2 : hz qX1 < 1000000 := by have := HT1.1; omega
  refine XS.go (s_aloadn rfl rfl rfl) ?_
  refine XS.go (s_sipush (v := 300) rfl rfl) ?_
  refine XS.go (s_newi (N := 300) rfl (by decide) rfl (by decide) hz2) ?_
  refine XS.go (s_putr rfl xf0_25 (Nat.lt_succ_of_lt hl2) ((hnew_at (h := qX1) (kind := 100) (n := 300) hl2).1.trans kx2) (by decide) rfl (Or.inr ⟨rfl, rfl⟩)) ?_
  refine XR.gen (fun X => TA qX X a 0 (a + 3) 1 300 uT (upd (upd (hi qX a) 1 (0)) 2 (4))) (TA.arr HT1 rfl rfl rfl (by decide)) (fun qX2 HT2 => ?_)
  clear hl2 kx2 hz2 HT1
  have hl3 := HT2.lt
  have kx3 := HT2.kd
  have hz3 : hz qX2 < 1000000 := by have := HT2.1; omega
  refine XS.go (s_aloadn rfl rfl rfl) ?_
  refine XS.go (s_sipush (v := 300) rfl rfl) ?_
  refine XS.go (s_newi (N := 300) rfl (by decide) rfl (by decide) hz3) ?_
  refine XS.go (s_putr rfl xf0_29 (Nat.lt_succ_of_lt hl3) ((hnew_at (h := qX2) (kind := 100) (n := 300) hl3).1.trans kx3) (by decide) rfl (Or.inr ⟨rfl, rfl⟩)) ?_
  refine XR.gen (fun X => TA qX X a 0 (a + 3) 2 600 uT (upd (upd (hi qX a) 1 (0)) 2 (4))) (TA.arr HT2 rfl rfl rfl (by decide)) (fun qX3 HT3 => ?_)
  clear hl3 kx3 hz3 HT2
  have hl4 := HT3.lt
  have kx4 := HT3.kd
  have hz4 : hz qX3 < 1000000 := by have := HT3.1; omega
  refine XS.go (s_aloadn rfl rfl rfl) ?_
  refine XS.go (s_sipush (v := 300) rfl rfl) ?_
  refine XS.go (s_newi (N := 300) rfl (by decide) rfl (by decide) hz4) ?_
  refine XS.go (s_putr rfl xf0_32 (Nat.lt_succ_of_lt hl4) ((hnew_at (h := qX3) (kind := 100) (n := 300) hl4).1.trans kx4) (by decide) rfl (Or.inr ⟨rfl, rfl⟩)) ?_
  refine XR.gen (fun X => TA qX X a 0 (a + 3) 3 900 uT (upd (upd (hi qX a) 1 (0)) 2 (4))) (TA.arr HT3 rfl rfl rfl (by decide)) (fun qX4 HT4 => ?_)
  clear hl4 kx4 hz4 HT3
  have hl5 := HT4.lt
  have kx5 := HT4.kd
  have hz5 : hz qX4 < 1000000 := by have := HT4.1; omega
  refine XS.go (s_aloadn rfl rfl rfl) ?_
  refine XS.go (s_sipush (v := 300) rfl rfl) ?_
  refine XS.go (s_newi (N := 300) rfl (by decide) rfl (by decide) hz5) ?_
  refine XS.go (s_putr rfl xf0_35 (Nat.lt_succ_of_lt hl5) ((hnew_at (h := qX4) (kind := 100) (n := 300) hl5).1.trans kx5) (by decide) rfl (Or.inr ⟨rfl, rfl⟩)) ?_
  refine XR.gen (fun X => TA qX X a 0 (a + 3) 4 1200 uT (upd (upd (hi qX a) 1 (0)) 2 (4))) (TA.arr HT4 rfl rfl rfl (by decide)) (fun qX5 HT5 => ?_)
  clear hl5 kx5 hz5 HT4
  have hl6 := HT5.lt
  have kx6 := HT5.kd
  refine XS.go (s_aloadn rfl rfl rfl) ?_
  refine XS.go (s_iconst (v := 0) rfl rfl) ?_
  refine XS.go (s_puti rfl xf0_38 hl6 kx6 (by decide) rfl (Or.inl rfl)) ?_
  refine XR.gen (fun X => TA qX X a 0 (a + 3) 4 1200 uT (upd (upd (upd (hi qX a) 1 (0)) 2 (4)) 7 (0))) (TA.int HT5 rfl) (fun qX6 HT6 => ?_)
  clear hl6 kx6 HT5
  have hl7 := HT6.lt
  have kx7 := HT6.kd
  have hz7 : hz qX6 < 1000000 := by have := HT6.1; omega
  refine XS.go (s_aloadn rfl rfl rfl) ?_
  refine XS.go (s_sipush (v := 300) rfl rfl) ?_
  refine XS.go (s_newi (N := 300) rfl (by decide) rfl (by decide) hz7) ?_
  refine XS.go (s_putr rfl xf0_41 (Nat.lt_succ_of_lt hl7) ((hnew_at (h := qX6) (kind := 100) (n := 300) hl7).1.trans kx7) (by decide) rfl (Or.inr ⟨rfl, rfl⟩)) ?_
  refine XR.gen (fun X => TA qX X a 0 (a + 3) 5 1500 uT (upd (upd (upd (hi qX a) 1 (0)) 2 (4)) 7 (0))) (TA.arr HT6 rfl rfl rfl (by decide)) (fun qX7 HT7 => ?_)
  clear hl7 kx7 hz7 HT6
  have hl8 := HT7.lt
  have kx8 := HT7.kd
  refine XS.go (s_aloadn rfl rfl rfl) ?_
  refine XS.go (s_iconst (v := 0) rfl rfl) ?_
  refine XS.go (s_puti rfl xf0_44 hl8 kx8 (by decide) rfl (Or.inl rfl)) ?_
  refine XR.gen (fun X => TA qX X a 0 (a + 3) 5 1500 uT (upd (upd (upd (upd (hi qX a) 1 (0)) 2 (4)) 7 (0)) 9 (0))) (TA.int HT7 rfl) (fun qX8 HT8 => ?_)
  clear hl8 kx8 HT7
  have hl9 := HT8.lt
  have kx9 := HT8.kd
  refine XS.go (s_aloadn rfl rfl rfl) ?_
  refine XS.go (s_iconst (v := (-1)) rfl rfl) ?_
  refine XS.go (s_puti rfl xf0_47 hl9 kx9 (by decide) rfl (Or.inl rfl)) ?_
  refine XR.gen (fun X => TA qX X a 0 (a + 3) 5 1500 uT (upd (upd (upd (upd (upd (hi qX a) 1 (0)) 2 (4)) 7 (0)) 9 (0)) 10 (-1))) (TA.int HT8 rfl) (fun qX9 HT9 => ?_)
  clear hl9 kx9 HT8
  have hl10 := HT9.lt
  have kx10 := HT9.kd
  refine XS.go (s_aloadn rfl rfl rfl) ?_
  refine XS.go (s_iconst (v := 0) rfl rfl) ?_
  refine XS.go (s_puti rfl xf0_50 hl10 kx10 (by decide) rfl (Or.inl rfl)) ?_
  refine XR.gen (fun X => TA qX X a 0 (a + 3) 5 1500 uT (upd (upd (upd (upd (upd (upd (hi qX a) 1 (0)) 2 (4)) 7 (0)) 9 (0)) 10 (-1)) 11 (0))) (TA.int HT9 rfl) (fun qX10 HT10 => ?_)
  clear hl10 kx10 HT9
  have hl11 := HT10.lt
  have kx11 := HT10.kd
  have hz11 : hz qX10 < 1000000 := by have := HT10.1; omega
  refine XS.go (s_aloadn rfl rfl rfl) ?_
  refine XS.go (s_bipush (v := 16) rfl rfl) ?_
  refine XS.go (s_newz (N := 16) rfl (by decide) rfl (by decide) hz11) ?_
  refine XS.go (s_putr rfl xf0_53 (Nat.lt_succ_of_lt hl11) ((hnew_at (h := qX10) (kind := 103) (n := 16) hl11).1.trans kx11) (by decide) rfl (Or.inr ⟨rfl, rfl⟩)) ?_
  refine XR.gen (fun X => TA qX X a 0 (a + 3) 6 1516 uT (upd (upd (upd (upd (upd (upd (hi qX a) 1 (0)) 2 (4)) 7 (0)) 9 (0)) 10 (-1)) 11 (0))) (TA.arr HT10 rfl rfl rfl (by decide)) (fun qX11 HT11 => ?_)
  clear hl11 kx11 hz11 HT10
  have hl12 := HT11.lt
  have kx12 := HT11.kd
  have hz12 : hz qX11 < 1000000 := by have := HT11.1; omega
  refine XS.go (s_aloadn rfl rfl rfl) ?_
  refine XS.go (s_bipush (v := 32) rfl rfl) ?_
  refine XS.go (s_newi (N := 32) rfl (by decide) rfl (by decide) hz12) ?_
  refine XS.go (s_putr rfl xf0_57 (Nat.lt_succ_of_lt hl12) ((hnew_at (h := qX11) (kind := 100) (n := 32) hl12).1.trans kx12) (by decide) rfl (Or.inr ⟨rfl, rfl⟩)) ?_
  refine XR.gen (fun X => TA qX X a 0 (a + 3) 7 1548 uT (upd (upd (upd (upd (upd (upd (hi qX a) 1 (0)) 2 (4)) 7 (0)) 9 (0)) 10 (-1)) 11 (0))) (TA.arr HT11 rfl rfl rfl (by decide)) (fun qX12 HT12 => ?_)
  clear hl12 kx12 hz12 HT11
  have hl13 := HT12.lt
  have kx13 := HT12.kd
  have hz13 : hz qX12 < 1000000 := by have := HT12.1; omega
  refine XS.go (s_aloadn rfl rfl rfl) ?_
  refine XS.go (s_bipush (v := 34) rfl rfl) ?_
  refine XS.go (s_newi (N := 34) rfl (by decide) rfl (by decide) hz13) ?_
  refine XS.go (s_putr rfl xf0_60 (Nat.lt_succ_of_lt hl13) ((hnew_at (h := qX12) (kind := 100) (n := 34) hl13).1.trans kx13) (by decide) rfl (Or.inr ⟨rfl, rfl⟩)) ?_
  refine XR.gen (fun X => TA qX X a 0 (a + 3) 8 1582 uT (upd (upd (upd (upd (upd (upd (hi qX a) 1 (0)) 2 (4)) 7 (0)) 9 (0)) 10 (-1)) 11 (0))) (TA.arr HT12 rfl rfl rfl (by decide)) (fun qX13 HT13 => ?_)
  clear hl13 kx13 hz13 HT12
  have hl14 := HT13.lt
  have kx14 := HT13.kd
  refine XS.go (s_aloadn rfl rfl rfl) ?_
  refine XS.go (s_iconst (v := 0) rfl rfl) ?_
  refine XS.go (s_puti rfl xf0_63 hl14 kx14 (by decide) rfl (Or.inl rfl)) ?_
  refine XR.gen (fun X => TA qX X a 0 (a + 3) 8 1582 uT (upd (upd (upd (upd (upd (upd (upd (hi qX a) 1 (0)) 2 (4)) 7 (0)) 9 (0)) 10 (-1)) 11 (0)) 15 (0))) (TA.int HT13 rfl) (fun qX14 HT14 => ?_)
  clear hl14 kx14 HT13
  obtain ⟨c1, c2, c3, c4, c5, c6, c7, c8, c9⟩ := HT14
  have RR : BU qX14 a := ⟨by omega, by omega, c6, (c8 0 (by decide)).trans xr, BY.keepR xB c5 (by omega) (by omega), fun i hi' => c9 i hi'⟩
  have e7 : hz qX14 = a + 11 := by omega
  have e8 : hw qX14 = hw h + 5584 := by omega
  refine XR.retv rfl rfl (fun hret => ⟨_, hret, rfl, e7, e8, KX.tr c4, RR, ((c5 (a + 1) (by omega) (by omega)).2.2.1 1).trans xl, fun j => ?_⟩)
  rw [c7 j, show hi qX a = (fun _ => 0) from funext xi]
