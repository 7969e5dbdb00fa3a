/-! Group's constructor -/
theorem mul_in {i m S : Nat} (h : i < m) : i * S + S ≤ m * S := by
  have := Nat.mul_le_mul_right S (show i + 1 ≤ m from h)
  rw [Nat.succ_mul] at this
  exact this
/-- behind m turns of the loop over the rows of a new group -/
def GL (h0 h : XH) (g M F LN m : Nat) (so : Int32) : Prop := hz h = g + 2 + m * (F + 4) ∧ hw h = hw h0 + M + m * (12 + 10 * F + 2 * LN) ∧ KP h0 h g ∧ hk h g = 4 ∧ hr h g 0 = some (g + 1) ∧ hk h (g + 1) = 105 ∧ hn h (g + 1) = M ∧ (∀ i, i < m → hr h (g + 1) i = some (g + 2 + i * (F + 4)) ∧ DF h (g + 2 + i * (F + 4)) F LN ∧ hi h (g + 2 + i * (F + 4)) 0 = so ∧ hi h (g + 2 + i * (F + 4)) 1 = nI i) ∧ hi h g 1 = 0
theorem GL.step {h0 h h2 : XH} {g M F LN m : Nat} {so : Int32} (D : GL h0 h g M F LN m so) (e1 : hz h2 = hz h + 4 + F) (e2 : hw h2 = hw h + 12 + (10 * F + 2 * LN)) (K : KP (hnew h 2 12) h2 (hz h)) (DD : DF h2 (hz h) F LN) (i0 : hi h2 (hz h) 0 = so) (i1 : hi h2 (hz h) 1 = nI m) (hm : hz h2 ≤ 1000000) : GL h0 (hrr h2 (g + 1) (va_up (hr h2 (g + 1)) m (some (hz h)))) g M F LN (m + 1) so := by
  obtain ⟨d1, d2, d3, d4, d5, d6, d7, d8, d9⟩ := D
  have K2 : KP h h2 (hz h) := (KP.new (Nat.le_refl _)).tr K
  have K3 : KP h (hrr h2 (g + 1) (va_up (hr h2 (g + 1)) m (some (hz h)))) (g + 1) := (K2.le (by omega)).tr (KP.rr (Nat.le_refl _))
  have DR : ∀ a, DF h2 a F LN → a ≠ g + 1 → a + 1 ≠ g + 1 → DF (hrr h2 (g + 1) (va_up (hr h2 (g + 1)) m (some (hz h)))) a F LN := fun a q n1 n2 => by
    obtain ⟨q1, q2, q3, q4, q5, q6, q7, q8, q9, q10, q11, q12, q13, q14, q15⟩ := q
    refine ⟨q1, q2, q3, q4, q5, ?_, q7, q8, fun i hi' => ⟨?_, (q9 i hi').2⟩, ?_, q11, q12, ?_, q14, q15⟩
    · rw [hr_hrr_ne n1]; exact q6
    · rw [hr_hrr_ne n2]; exact (q9 i hi').1
    · rw [hr_hrr_ne n1]; exact q10
    · rw [hr_hrr_ne n1]; exact q13
  have e3 : (m + 1) * (F + 4) = m * (F + 4) + (F + 4) := Nat.succ_mul _ _
  have e4 : (m + 1) * (12 + 10 * F + 2 * LN) = m * (12 + 10 * F + 2 * LN) + (12 + 10 * F + 2 * LN) := Nat.succ_mul _ _
  refine ⟨by rw [hz_hrr]; omega, by rw [hw_hrr]; omega, d3.tr ((K2.le (by omega)).tr (KP.rr (by omega))), ?_, ?_, ?_, ?_, fun i hi' => ?_, ?_⟩
  · rw [(K3 g (by omega)).1]; exact d4
  · rw [(K3 g (by omega)).2.2.2.2 0]; exact d5
  · rw [hk_hrr, (K2 (g + 1) (by omega)).1]; exact d6
  · rw [hn_hrr, (K2 (g + 1) (by omega)).2.1]; exact d7
  · by_cases e : i = m
    · subst e
      rw [← d1]
      refine ⟨?_, DR _ DD (by omega) (by omega), ?_, ?_⟩
      · rw [hr_hrr_eq]; simp [va_up]
      · rw [hi_hrr]; exact i0
      · rw [hi_hrr]; exact i1
    · have him : i < m := by omega
      have hin := mul_in (S := F + 4) him
      obtain ⟨q1, q2, q3, q4⟩ := d8 i him
      have q2' := q2.keep K2 (by omega) (by omega) hm
      refine ⟨?_, DR _ q2' (by omega) (by omega), ?_, ?_⟩
      · rw [hr_hrr_eq]
        unfold va_up
        rw [if_neg e, (K2 (g + 1) (by omega)).2.2.2.2 i]; exact q1
      · rw [hi_hrr, (K2 _ (by omega)).2.2.1 0]; exact q3
      · rw [hi_hrr, (K2 _ (by omega)).2.2.1 1]; exact q4
  · rw [(K3 g (by omega)).2.2.1 1]; exact d9
set_option maxRecDepth 20000 in
theorem k_gInit_loop {l : Launch} {G : XG} {h0 : XH} {g M F LN d : Nat} {so : Int32} {P : XCfg → Prop} (hM : M ≤ 16) (hF : F ≤ 16) (hLN : (so = 2 ∧ LN = 128) ∨ (so ≠ 2 ∧ LN = 0)) (hm : g + 2 + M * (F + 4) ≤ 1000000) (kk : ∀ h, GL h0 h g M F LN M so → XR l G xEX4_init (d + 3) (54, [some (.ref g), some (.int so), some (.int (nI M)), some (.int (nI F)), some (.int (nI M))], [], h) P) : ∀ (n m : Nat) (h : XH), m + n = M → GL h0 h g M F LN m so → XR l G xEX4_init (d + 3) (20, [some (.ref g), some (.int so), some (.int (nI M)), some (.int (nI F)), some (.int (nI m))], [], h) P := by
  intro n
  induction n with
  | zero =>
    intro m h hmk D
    have e : m = M := by omega
    subst e
    have D9 := D
    obtain ⟨d1, d2, d3, d4, d5, d6, d7, d8, d9⟩ := D
    refine XS.go (s_iload rfl rfl) ?_
    refine XS.go (s_aloadn rfl rfl rfl) ?_
    refine XS.go (s_getr rfl xf4_15 (by first | assumption | (show _ < hz h; omega) | omega) (by first | assumption | (show _ < hz h; omega) | omega) (by decide) rfl (by first | assumption | (show _ < hz h; omega) | omega)) ?_
    refine XS.go (s_alen rfl (by first | assumption | (show _ < hz h; omega) | omega) (by rw [d6]; decide)) ?_
    refine XS.go (s_icmp_ge_t (tgt := 54) rfl rfl (show nI (hn h (g + 1)) ≤ nI m by rw [d7]; exact nI_le (Nat.le_refl _) (by omega))) ?_
    exact kk h D9
  | succ n ih =>
    intro m h hmk D
    have D9 := D
    obtain ⟨d1, d2, d3, d4, d5, d6, d7, d8, d9⟩ := D
    have hin := mul_in (S := F + 4) (show m < M by omega)
    refine XS.go (s_iload rfl rfl) ?_
    refine XS.go (s_aloadn rfl rfl rfl) ?_
    refine XS.go (s_getr rfl xf4_15 (by first | assumption | (show _ < hz h; omega) | omega) (by first | assumption | (show _ < hz h; omega) | omega) (by decide) rfl (by first | assumption | (show _ < hz h; omega) | omega)) ?_
    refine XS.go (s_alen rfl (by first | assumption | (show _ < hz h; omega) | omega) (by rw [d6]; decide)) ?_
    refine XS.go (s_icmp_ge_f (tgt := 54) rfl rfl (show ¬ nI (hn h (g + 1)) ≤ nI m by rw [d7]; exact nI_ge (by omega) (by omega))) ?_
    refine XS.go (s_aloadn rfl rfl rfl) ?_
    refine XS.go (s_getr rfl xf4_15 (by first | assumption | (show _ < hz h; omega) | omega) (by first | assumption | (show _ < hz h; omega) | omega) (by decide) rfl (by first | assumption | (show _ < hz h; omega) | omega)) ?_
    refine XS.go (s_iload rfl rfl) ?_
    refine XS.go (s_new (ci := 2) rfl (lg_1 106 rfl rfl) (by decide) rfl (show hz h < 1000000 by omega)) ?_
    refine XS.go (s_dup rfl rfl) ?_
    refine XS.go (s_iloadn rfl rfl rfl) ?_
    refine XS.go (s_iload rfl rfl) ?_
    refine XS.go (s_iloadn rfl rfl rfl) ?_
    refine r_calli rfl xnX2_init rfl xm4_19 (k_dInit (h := hnew h 2 12) (a := hz h) (F := F) (LN := LN) (d := d) (nu := nI m) hnew_z (hnew_k (h := h) (kind := 2) (n := 12)) hF hLN (by omega)) rfl rfl (by omega) (by decide) (Nat.le_of_ble_eq_true rfl) ?_
    rintro _ h2 ⟨rfl, e1, e2, K, DD, i0, i1, -⟩
    have e2b : hw h2 = hw h + 12 + (10 * F + 2 * LN) := e2
    have e1b : hz h2 = hz h + 4 + F := e1
    refine XS.go (t_aast105 rfl (show g + 1 < hz h2 by omega) ((K (g + 1) (by omega)).1.trans ((hnew_at (h := h) (kind := 2) (n := 12) (show g + 1 < hz h by omega)).1.trans d6)) (show vp_in (nI m) (hn h2 (g + 1)) from in_nI ((K (g + 1) (by omega)).2.1.trans ((hnew_at (h := h) (kind := 2) (n := 12) (show g + 1 < hz h by omega)).2.1.trans d7)) (by omega) (by omega)) (show hz h < hz h2 by omega) DD.2.2.2.2.1) ?_
    rw [nI_clamp (by omega)]
    refine XS.go (s_inc rfl rfl (Nat.le_of_ble_eq_true rfl)) ?_
    refine XS.go (s_goto (tgt := 20) rfl rfl) ?_
    rw [nI_1]
    exact ih (m + 1) _ (by omega) (D9.step e1b e2b K DD i0 i1 (by omega))
theorem GL.fin {h0 h : XH} {g M F LN : Nat} {so : Int32} (D : GL h0 h g M F LN M so) (hM : M ≤ 16) (hm : g + 2 + M * (F + 4) ≤ 1000000) : hz h = g + 2 + M * (F + 4) ∧ hw h = hw h0 + M + M * (12 + 10 * F + 2 * LN) ∧ KP h0 h g ∧ GR h g M F LN ∧ hi h g 1 = 0 ∧ ∀ i, i < M → hi h (g + 2 + i * (F + 4)) 0 = so ∧ hi h (g + 2 + i * (F + 4)) 1 = nI i := by
  obtain ⟨d1, d2, d3, d4, d5, d6, d7, d8, d9⟩ := D
  exact ⟨d1, d2, d3, ⟨Nat.le_of_eq d1.symm, by omega, hM, d4, d5, d6, d7, fun i hi' => ⟨(d8 i hi').1, (d8 i hi').2.1⟩⟩, d9, fun i hi' => (d8 i hi').2.2⟩
set_option maxRecDepth 20000 in
theorem k_gInit {l : Launch} {G : XG} {h : XH} {g M F LN d : Nat} {so : Int32} (hg : hz h = g + 1) (kg : hk h g = 4) (hM : M ≤ 16) (hF : F ≤ 16) (hLN : (so = 2 ∧ LN = 128) ∨ (so ≠ 2 ∧ LN = 0)) (hm : g + 2 + M * (F + 4) ≤ 1000000) : XC l G xEX4_init (d + 3) [.ref g, .int so, .int (nI M), .int (nI F)] h (fun v h2 => v = none ∧ hz h2 = g + 2 + M * (F + 4) ∧ hw h2 = hw h + M + M * (12 + 10 * F + 2 * LN) ∧ KP h h2 g ∧ GR h2 g M F LN ∧ hi h2 g 1 = 0 ∧ ∀ i, i < M → hi h2 (g + 2 + i * (F + 4)) 0 = so ∧ hi h2 (g + 2 + i * (F + 4)) 1 = nI i) := by
  have hg1 : g < hz h := by omega
  refine XC.init xnX4_init (Nat.le_of_ble_eq_true rfl) ?_
  refine XS.go (s_aloadn rfl rfl rfl) ?_
  refine XS.go (s_objInit rfl (lg_1 105 rfl rfl) (lg_1 33 rfl rfl) (lg_1 34 rfl rfl) (by omega) (Nat.le_of_ble_eq_true rfl)) ?_
  refine XS.go (s_aloadn rfl rfl rfl) ?_
  refine XS.go (s_iconst (v := 0) rfl rfl) ?_
  refine XS.go (s_puti rfl xf4_7 hg1 kg (by decide) rfl (Or.inl rfl)) ?_
  refine XS.go (s_aloadn rfl rfl rfl) ?_
  refine XS.go (s_iloadn rfl rfl rfl) ?_
  refine XS.go (s_newd rfl (lg_1 106 rfl rfl) (N := M) (nI_pos (by omega)) (nI_clamp (by omega)) (by omega) (show hz h < 1000000 by omega)) ?_
  refine XS.go (s_putr rfl xf4_15 (show g < hz h + 1 by omega) ((ho_new (h := hsi h g 1 0) (kind := 105) (n := M) g (show g ≠ hz h by omega)).1.trans kg) (by decide) rfl (Or.inr ⟨rfl, rfl⟩)) ?_
  refine XS.go (s_iconst (v := 0) rfl rfl) ?_
  refine XS.go (s_istore rfl (Nat.le_of_ble_eq_true rfl)) ?_
  refine k_gInit_loop (h0 := h) (LN := LN) (d := d) hM hF hLN hm (fun h9 D => ?_) M 0 _ (by omega) ?_
  · exact XR.retv rfl rfl (fun hret => ⟨_, hret, rfl, GL.fin D hM hm⟩)
  · have nw := ho_new (h := hsi h g 1 0) (kind := 105) (n := M) g (show g ≠ hz h by omega)
    refine ⟨by show hz h + 1 = _; omega, by show hw h + M = _; omega, (KP.si (k := 1) (v := 0) (Nat.le_refl _)).tr ((KP.new (h := hsi h g 1 0) (kind := 105) (m := M) (show g ≤ hz h by omega)).tr (KP.sr (Nat.le_refl _))), nw.1.trans kg, ?_, ?_, ?_, fun i hi' => absurd hi' (Nat.not_lt_zero i), ?_⟩
    · rw [hr_hsr_eq]; exact congrArg some (show hz h = g + 1 from hg)
    · rw [show g + 1 = hz h from hg.symm]; exact hnew_k (h := hsi h g 1 0) (kind := 105) (n := M)
    · rw [show g + 1 = hz h from hg.symm]; exact hnew_n (h := hsi h g 1 0) (kind := 105) (n := M)
    · exact (nw.2.2.1 1).trans (by rw [hi_hsi, if_pos ⟨rfl, rfl⟩])
