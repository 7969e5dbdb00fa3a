/-! Reader's constructor -/
theorem BY.keepR {h h2 : XH} {b : Nat} (B : BY h b (b + 1)) (K : KR h h2 b (b + 2)) (hle : b + 2 ≤ hz h2) (hm : hz h2 ≤ 1000000) : BY h2 b (b + 1) := by
  obtain ⟨d1, d2, d3, d4, d5, d6, d7⟩ := B
  have e0 := K b (by omega) (by omega)
  have e1 := K (b + 1) (by omega) (by omega)
  exact ⟨by omega, e0.1.trans d2, (e0.2.2.2.2 0).trans d3, by omega, e1.1.trans d5, e1.2.1.trans d6, hm⟩
/-- a new row of bytes, as field k of a -/
theorem BY.made {h : XH} {a k : Nat} (ha : a < hz h) (hm : hz h + 2 ≤ 1000000) (h2 : XH) (e2 : h2 = hsr (hsi (hsr (hnew (hnew h 1 2) 102 4000) (hz h) 0 (some (hz h + 1))) (hz h) 1 0) a k (some (hz h))) : hz h2 = hz h + 2 ∧ hw h2 = hw h + 4002 ∧ KP h h2 a ∧ hk h2 a = hk h a ∧ (∀ j, j ≠ k → hr h2 a j = hr h a j) ∧ (∀ j, hi h2 a j = hi h a j) ∧ hr h2 a k = some (hz h) ∧ BY h2 (hz h) (hz h + 1) ∧ hi h2 (hz h) 1 = 0 ∧ KR h h2 (a + 1) (hz h) := by
  subst e2
  have n1 := hnew_at (h := h) (kind := 1) (n := 2) ha
  have n2 := hnew_at (h := hnew h 1 2) (kind := 102) (n := 4000) (b := a) (show a < hz h + 1 by omega)
  have m2 := hnew_at (h := hnew h 1 2) (kind := 102) (n := 4000) (b := hz h) (show hz h < hz h + 1 by omega)
  refine ⟨rfl, rfl, (KP.new (by omega)).tr ((KP.new (h := hnew h 1 2) (show a ≤ hz h + 1 by omega)).tr ((KP.sr (by omega)).tr ((KP.si (by omega)).tr (KP.sr (Nat.le_refl _))))), n2.1.trans n1.1, fun j hj' => ?_, fun j => ?_, hr_hsr_eq, ⟨?_, ?_, ?_, ?_, ?_, ?_, ?_⟩, ?_, ?_⟩
  · rw [hr_hsr_nk hj', hr_hsi, hr_hsr_na (by omega), n2.2.2.2.2 j]; exact n1.2.2.2.2 j
  · rw [hi_hsr, hi_hsi, if_neg (fun z => absurd z.1 (by omega)), hi_hsr, n2.2.2.1 j]; exact n1.2.2.1 j
  · show hz h < hz h + 2; omega
  · exact m2.1.trans (hnew_k (h := h) (kind := 1) (n := 2))
  · rw [hr_hsr_na (by omega), hr_hsi, hr_hsr_eq]
  · show hz h + 1 < hz h + 2; omega
  · exact hnew_k (h := hnew h 1 2) (kind := 102) (n := 4000)
  · exact hnew_n (h := hnew h 1 2) (kind := 102) (n := 4000)
  · show hz h + 2 ≤ _; omega
  · rw [hi_hsr, hi_hsi, if_pos ⟨rfl, rfl⟩]
  · exact (KR.new (by omega)).tr ((KR.new (h := hnew h 1 2) (show hz h ≤ hz h + 1 by omega)).tr ((KR.sr (Or.inr (Nat.le_refl _))).tr ((KR.si (Or.inr (Nat.le_refl _))).tr (KR.sr (Or.inl (by omega))))))
