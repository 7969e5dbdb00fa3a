/-! The parsers: definitions, both -/

/-- the model's definition behind its word -/
def dM (w : Int32) (h : XH) : Option (Unit × XH) := (Option.bind (f_m_isName h) fun r31 => (if ¬ r31.1 = 0 then (Option.bind (f_m_definition (hi r31.2 1262 13) r31.2) fun r35 => (if r35.1 = (-1) then (if ¬ w = 11 then (if ¬ w = 12 then (if ¬ (hi r35.2 1262 41) = 8 then (b_m_define_85 w r35.2) else (b_m_define_79 r35.2)) else (if ¬ (hi r35.2 1262 31) = 16 then (b_m_define_85 w r35.2) else (b_m_define_79 r35.2))) else (if ¬ (hi r35.2 1262 20) = 12 then (b_m_define_85 w r35.2) else (b_m_define_79 r35.2))) else (Option.bind (f_m_flaw 3 r35.2) fun r44 => (some ((), r44.2))))) else (Option.bind (f_m_misfit r31.2) fun r47 => (some ((), r47.2)))))
def dQ (h : XH) (nd k : Nat) (so no : Int32) : XH := hsi (hsi (hsi (hsi (hsi h 1270 nd (nI k)) 1271 nd so) 1272 nd no) 1262 16 (nI (nd + 1))) 1262 13 (nI (k + 1))
theorem TF.mn {c t es et eu es' et' eu' lo na : Nat} {g h : XH} {a j : Nat} (A : TF c t es et eu lo na g h a j) (h1 : es ≤ es') (h2 : et ≤ et') (h3 : eu ≤ eu') : TF c t es' et' eu' lo na g h a j := by
  obtain ⟨a1, a2, a3, a4⟩ := A
  refine ⟨a1, a2, a3, a4.imp (fun ⟨so, o, e, b1, b2, b3, b4⟩ => ⟨so, o, e, b1, b2, b3, ?_⟩) id⟩
  unfold oQ at b4 ⊢
  omega
theorem DE.mn {c S es et eu es' et' eu' : Nat} {g h : XH} {d : Nat} (A : DE c S es et eu g h d) (h1 : es ≤ es') (h2 : et ≤ et') (h3 : eu ≤ eu') : DE c S es' et' eu' g h d := by
  obtain ⟨ad, so, no, d1, d2, d3, d4, d5⟩ := A
  refine ⟨ad, so, no, d1, ?_, d3, d4, d5⟩
  unfold DA at d2 ⊢
  omega
section Df
variable {T : Nat → Nat} {n c t S k nd ns nt nu na es et eu : Nat} {g h u p : XH}
/-- one more definition -/
theorem BG.defn {so no ad es' et' eu' : Nat} (A : BG T n c S t nd ns 0 nt 0 nu 0 na ns nt nu 0 g h) (D : DA S es' et' eu' ad so no) (hh : (es' = ns + 1 ∧ et' = nt ∧ eu' = nu ∧ ns < 12) ∨ (es' = ns ∧ et' = nt + 1 ∧ eu' = nu ∧ nt < 16) ∨ (es' = ns ∧ et' = nt ∧ eu' = nu + 1 ∧ nu < 8)) (r : hr g (S + 615) nd = some ad) (m1 : hi h 1271 nd = nI so) (m2 : hi h 1272 nd = nI no) (nm : NAq c g (hi h 1270 nd) (hj g ad 4) (hj g ad 5)) : BG T n c S t (nd + 1) ns 0 nt 0 nu 0 na es' et' eu' 0 g h := by
  obtain ⟨M, K, D0, SS, SC', TT, TC, UU, UC, E, I, ⟨l1, l2, l3, l4, l5, l6, l7, l8, l9, l10, l11, l12, l13, l14⟩⟩ := A
  have i1 : ns ≤ es' := by omega
  have i2 : nt ≤ et' := by omega
  have i3 : nu ≤ eu' := by omega
  refine ⟨M, K, fun d hd => ?_, SS, SC', fun s hs => ?_, fun j hj' => absurd hj' (Nat.not_lt_zero j), fun s hs => ?_, fun j hj' => absurd hj' (Nat.not_lt_zero j), E, I, ⟨i1, by omega, by omega, i2, by omega, by omega, i3, by omega, by omega, by omega, l11, Or.inl rfl, Or.inl rfl, Or.inl rfl⟩⟩
  · by_cases cd : d = nd
    · rw [cd]
      exact ⟨ad, so, no, r, D, m1, m2, nm⟩
    · exact (D0 d (by omega)).mn i1 i2 i3
  · obtain ⟨m, q1, q2, q3, q4⟩ := TT s hs
    exact ⟨m, q1, q2, q3, fun f hf => (q4 f hf).mn i1 i2 i3⟩
  · obtain ⟨m, q0, q1, q2, q3, q4⟩ := UU s hs
    refine ⟨m, q0, q1, q2, q3, fun f hf => ?_⟩
    obtain ⟨a1, a2⟩ := q4 f hf
    exact ⟨a1, a2.imp (fun ⟨o, b1, b2⟩ => ⟨o, by omega, b2⟩) id⟩
theorem dM_mis {w : Int32} (m1 : f_m_isName h = some (0, h)) (m2 : f_m_misfit h = some ((), p)) : dM w h = some ((), p) := by
  unfold dM
  exact o_bind m1 (o_neg (not_not_intro rfl) (o_bind m2 rfl))
theorem dM_dup {w : Int32} {d : Nat} (hd : d < 2 ^ 31) (e13 : hi h 1262 13 = nI k) (m1 : f_m_isName h = some (1, h)) (m2 : f_m_definition (nI k) h = some (nI d, h)) (m3 : f_m_flaw 3 h = some ((), p)) : dM w h = some ((), p) := by
  unfold dM
  exact o_bind m1 (o_pos one0 (o_bind (by rw [e13]; exact m2) (o_neg (nI_n1 hd) (o_bind m3 rfl))))
theorem dM_go {w : Int32} {X : Option (Unit × XH)} (e13 : hi h 1262 13 = nI k) (m1 : f_m_isName h = some (1, h)) (m2 : f_m_definition (nI k) h = some (-1, h)) (m3 : (if ¬ w = 11 then (if ¬ w = 12 then (if ¬ (hi h 1262 41) = 8 then (b_m_define_85 w h) else (b_m_define_79 h)) else (if ¬ (hi h 1262 31) = 16 then (b_m_define_85 w h) else (b_m_define_79 h))) else (if ¬ (hi h 1262 20) = 12 then (b_m_define_85 w h) else (b_m_define_79 h))) = X) : dM w h = X := by
  unfold dM
  exact o_bind m1 (o_pos one0 (o_bind (by rw [e13]; exact m2) (o_pos rfl m3)))
theorem e_m_define_85 {no : Nat} {w so : Int32} {X : Option (Unit × XH)} (hnd : nd < 40) (m14' : hi h 1262 14 = 0) (e13 : hi h 1262 13 = nI k) (e16 : hi h 1262 16 = nI nd) (hw : (w = 11 ∧ so = 2 ∧ hi h 1262 20 = nI no) ∨ (w = 12 ∧ so = 3 ∧ hi h 1262 31 = nI no) ∨ (w = 13 ∧ so = 4 ∧ hi h 1262 41 = nI no)) (hX : (Option.bind (f_m_sign 123 (dQ h nd k so (nI no))) fun r5 => (if ¬ w = 11 then (if ¬ w = 12 then (Option.bind (f_m_unionBody r5.2) fun r10 => (some ((), r10.2))) else (Option.bind (f_m_tableBody r5.2) fun r13 => (some ((), r13.2)))) else (Option.bind (f_m_structBody r5.2) fun r16 => (some ((), r16.2))))) = X) : b_m_define_85 w h = X := by
  have nk : 0 ≤ nI nd ∧ nI nd < nI 40 := ⟨nI_pos' (by omega), by (first | (simp (maxSteps := 4000000) (disch := omega) only [n_0, n_1, n_2, n_3, n_4, n_5, n_6, n_7, n_8, n_9, n_10, n_11, n_12, n_13, n_14, n_15, n_16, n_18, n_20, n_24, n_31, n_32, n_34, n_40, n_41, n_44, n_45, n_47, n_48, n_57, n_58, n_59, n_61, n_63, n_64, n_65, n_68, n_90, n_91, n_93, n_95, n_97, n_100, n_122, n_123, n_125, n_128, n_144, n_200, n_255, n_256, n_300, n_400, n_600, n_1536, n_3980, n_4000, n_4001, n_4300, n_65536, l_0, l_1, l_2, l_3, l_4, l_10, l_48, l_63, l_255, l_300, nI_ltI, nI_leI, nI_eq, nI_clamp, nI_add, pk_sub, pk_mul, nI_ne1, ne1_nI, nI_pge, nI_nlt0, nI_l, lN_i, lN_add, lN_mul, lN_sub, pk_lLT, pk_lLE, pk_lEQ, lg_lt, lg_ge, lg_eq0, lg_le, lg_gt, lg_ltn, lg_gen, lg_eq0n, lg_len, lg_gtn, Nat.zero_le, Nat.not_lt_zero, not_false_eq_true, not_true_eq_false, true_and, and_true]; done) | (simp (maxSteps := 4000000) (disch := omega) only [n_0, n_1, n_2, n_3, n_4, n_5, n_6, n_7, n_8, n_9, n_10, n_11, n_12, n_13, n_14, n_15, n_16, n_18, n_20, n_24, n_31, n_32, n_34, n_40, n_41, n_44, n_45, n_47, n_48, n_57, n_58, n_59, n_61, n_63, n_64, n_65, n_68, n_90, n_91, n_93, n_95, n_97, n_100, n_122, n_123, n_125, n_128, n_144, n_200, n_255, n_256, n_300, n_400, n_600, n_1536, n_3980, n_4000, n_4001, n_4300, n_65536, l_0, l_1, l_2, l_3, l_4, l_10, l_48, l_63, l_255, l_300, nI_ltI, nI_leI, nI_eq, nI_clamp, nI_add, pk_sub, pk_mul, nI_ne1, ne1_nI, nI_pge, nI_nlt0, nI_l, lN_i, lN_add, lN_mul, lN_sub, pk_lLT, pk_lLE, pk_lEQ, lg_lt, lg_ge, lg_eq0, lg_le, lg_gt, lg_ltn, lg_gen, lg_eq0n, lg_len, lg_gtn, Nat.zero_le, Nat.not_lt_zero, not_false_eq_true, not_true_eq_false, true_and, and_true]; omega) | omega)⟩
  have c16 : Int32.toNatClampNeg (nI nd) = nd := nI_clamp (by omega)
  obtain ⟨h1, e1⟩ : ∃ h1, h1 = hsi h 1270 nd (nI k) := ⟨_, rfl⟩
  obtain ⟨h2, e2⟩ : ∃ h2, h2 = hsi h1 1271 nd so := ⟨_, rfl⟩
  have a1 : ∀ k, hi h1 1262 k = hi h 1262 k := fun k => by rw [e1, hi_hsi_ne (by decide)]
  have a2 : ∀ k, hi h2 1262 k = hi h 1262 k := fun k => by rw [e2, hi_hsi_ne (by decide), a1]
  obtain ⟨h3, e3⟩ : ∃ h3, h3 = hsi (hsi h2 1272 nd (nI no)) 1262 16 (nI (nd + 1)) := ⟨_, rfl⟩
  have a3 : ∀ k, k ≠ 16 → hi h3 1262 k = hi h 1262 k := fun k hk' => by rw [e3, hi_nk hk', hi_hsi_ne (by decide), a2]
  have tk : f_m_take h3 = some ((), dQ h nd k so (nI no)) := by
    rw [e_m_take (k := k) (by rw [a3 14 (by decide)]; exact m14') (by rw [a3 13 (by decide)]; exact e13), e3, e2, e1]
    rfl
  have g3 : b_m_define_166 w (nI nd) (nI no) h2 = X := by
    unfold b_m_define_166
    rw [c16, a2 16, e16, n_1, nI_add, ← e3]
    exact o_pos nk (o_bind tk hX)
  have g2 : b_m_define_127 w (nI nd) so h1 = X := by
    unfold b_m_define_127
    rw [c16, a1, a1, a1, a1, e16, ← e2]
    rcases hw with ⟨q1, q2, q3⟩ | ⟨q1, q2, q3⟩ | ⟨q1, q2, q3⟩ <;> rw [q3]
    · exact o_pos nk (o_neg (not_not_intro q1) g3)
    · exact o_pos nk (o_pos (by rw [q1]; decide) (o_neg (not_not_intro q1) g3))
    · exact o_pos nk (o_pos (by rw [q1]; decide) (o_pos (by rw [q1]; decide) g3))
  unfold b_m_define_85
  rw [e16, c16, e13, ← e1]
  rcases hw with ⟨q1, q2, q3⟩ | ⟨q1, q2, q3⟩ | ⟨q1, q2, q3⟩
  · rw [q2] at g2
    exact o_pos nk (o_neg (not_not_intro q1) g2)
  · rw [q2] at g2
    exact o_pos nk (o_pos (by rw [q1]; decide) (o_neg (not_not_intro q1) g2))
  · rw [q2] at g2
    exact o_pos nk (o_pos (by rw [q1]; decide) (o_pos (by rw [q1]; decide) g2))
/-- both define: what they hold behind the name -/
theorem def2 {a M F LN e ad so es' et' eu' : Nat} (A : ST T n c g h t S k) (B : BG T n c S t nd ns 0 nt 0 nu 0 na ns nt nu 0 g h) (N : CN S t nd ns nt nu na ns nt nu g h) (Lh : LY h) (hh : (es' = ns + 1 ∧ et' = nt ∧ eu' = nu ∧ ns < 12 ∧ a = S + 1 ∧ ad = dS S ns ∧ so = 2 ∧ e = ns) ∨ (es' = ns ∧ et' = nt + 1 ∧ eu' = nu ∧ nt < 16 ∧ a = S + 195 ∧ ad = dT S nt ∧ so = 3 ∧ e = nt) ∨ (es' = ns ∧ et' = nt ∧ eu' = nu + 1 ∧ nu < 8 ∧ a = S + 517 ∧ ad = dU S nu ∧ so = 4 ∧ e = nu)) (q8 : hi g 8 k = 2) (s1 : ST T n c u (hsi h 1262 13 (nI (k + 1))) t S (k + 1)) (s2 : FRX (ndP S t a ad) (ndJ ad) (ndW S nd) g u) (s3 : hi u a 1 = nI (e + 1)) (s4 : hi u S 4 = nI (nd + 1)) (s5 : hj u ad 4 = hj g 10 k) (s6 : hj u ad 5 = hj g 11 k) (s7 : hr u (S + 615) nd = some ad) : ST T n c u (dQ h nd k (nI so) (nI e)) t S (k + 1) ∧ BG T n c S t (nd + 1) ns 0 nt 0 nu 0 na es' et' eu' 0 u (dQ h nd k (nI so) (nI e)) ∧ CN S t (nd + 1) ns nt nu na es' et' eu' u (dQ h nd k (nI so) (nI e)) ∧ LY (dQ h nd k (nI so) (nI e)) ∧ FC S t g u ∧ FMx h (dQ h nd k (nI so) (nI e)) := by
  have L := A.1.1
  have t17 := A.1.2.1
  have hS := A.1.2.2.2.1
  have kc' := A.2.2.1
  have sc := SC.of L hS
  have u9 : hk g S = 9 := sc.2.2.1
  have k4 : hk g a = 4 := by
    rcases hh with ⟨-, -, -, -, q, -⟩ | ⟨-, -, -, -, q, -⟩ | ⟨-, -, -, -, q, -⟩ <;> subst q
    · exact sc.gS.2.2.2.1
    · exact sc.gT.2.2.2.1
    · exact sc.gU.2.2.2.1
  have rg : S + 1 ≤ a ∧ a < ad ∧ ad < S + 615 := by unfold dS dT dU at hh; omega
  obtain ⟨q, eq⟩ : ∃ q, q = dQ h nd k (nI so) (nI e) := ⟨_, rfl⟩
  rw [← eq]
  have Gq : FRX (zP nd ns 0 nt 0 nu 0 na) sJ nW h q := by
    rw [eq]
    unfold dQ
    exact FRX.si (FRX.si (FRX.si (FRX.si (FRX.si FRX.refl (Or.inr (Or.inl ⟨by decide, by decide, Nat.le_refl _⟩))) (Or.inr (Or.inl ⟨by decide, by decide, Nat.le_refl _⟩))) (Or.inr (Or.inl ⟨by decide, by decide, Nat.le_refl _⟩))) (by simp [zP])) (by simp [zP])
  have q0 : hi q 1270 nd = nI k ∧ hi q 1271 nd = nI so ∧ hi q 1272 nd = nI e := by
    rw [eq]
    unfold dQ
    simp (disch := decide) only [hi_hsi_ne, hi_at, and_self]
  have q16 : hi q 1262 16 = nI (nd + 1) := by
    rw [eq]
    unfold dQ
    rw [hi_nk (by decide), hi_at]
  have qk : ∀ k, k ≠ 13 → k ≠ 16 → hi q 1262 k = hi h 1262 k := fun j h1 h2 => by
    rw [eq]
    unfold dQ
    rw [hi_nk h1, hi_nk h2, hi_hsi_ne (by decide), hi_hsi_ne (by decide), hi_hsi_ne (by decide)]
  have Fq : FMx h q := Gq.mono (fun a k z => zP_m z) (fun a k z => Or.inl z) (fun _ _ z => z)
  have Gx : FRX xM nJ nW (hsi h 1262 13 (nI (k + 1))) q := by
    have Gy : FRX (fun a k => xM a k ∨ (a = 1262 ∧ k = 13)) sJ nW h q := by
      rw [eq]
      unfold dQ
      exact FRX.si (FRX.si (FRX.si (FRX.si (FRX.si FRX.refl (by simp [xM])) (by simp [xM])) (by simp [xM])) (by simp [xM])) (by simp [xM])
    have q13 : hi q 1262 13 = nI (k + 1) := by
      rw [eq]
      unfold dQ
      rw [hi_at]
    refine ⟨Gy.1, fun a k z => Gy.rf (fun y => y), fun a k z => Gy.lg (fun y => z (Or.inl y)), fun a j z => ?_⟩
    by_cases cc : a = 1262 ∧ j = 13
    · rw [cc.1, cc.2, hi_at, q13]
    · rw [hi_hsi, if_neg cc]
      exact Gy.at (fun y => y.elim z cc)
  have FCg : FC S t g u := s2.mono (fun a' k z => by
      unfold ndP ndC at z
      rcases z with (⟨z1, z2⟩ | ⟨z1, z2⟩ | ⟨z1, z2⟩) | ⟨z1, z2⟩
      · exact Or.inr ⟨Or.inl z2, by omega, by omega⟩
      · exact Or.inr ⟨Or.inr (by rw [z1, k4]; decide), by omega, by omega⟩
      · exact Or.inr ⟨Or.inl (by omega), by omega, by omega⟩
      · exact Or.inl (by omega)) (fun a' k z => by unfold ndJ at z; exact Or.inr (Or.inr (by omega))) (fun a' k z => Or.inl z.1)
  have l := B.2.2.2.2.2.2.2.2.2.2.2
  have B1 : BG T n c S t nd ns 0 nt 0 nu 0 na ns nt nu 0 u q := B.fr L t17 (s2.mono (fun a' k z => by
      unfold ndP ndC at z
      rcases z with (⟨z1, z2⟩ | ⟨z1, z2⟩ | ⟨z1, z2⟩) | ⟨z1, z2⟩
      · refine Or.inr (Or.inr ⟨Or.inl z2, ?_⟩)
        rcases hh with ⟨-, -, -, h4, h5, h6, -⟩ | ⟨-, -, -, h4, h5, h6, -⟩ | ⟨-, -, -, h4, h5, h6, -⟩ <;> unfold dS dT dU at * <;> omega
      · exact Or.inr (Or.inr ⟨Or.inr (by rw [z1, k4]; decide), by omega⟩)
      · exact Or.inr (Or.inr ⟨Or.inl (by omega), by omega⟩)
      · exact Or.inl z1) (fun a' k z => by
      unfold ndJ at z
      unfold yJ
      rcases hh with ⟨-, -, -, h4, h5, h6, -⟩ | ⟨-, -, -, h4, h5, h6, -⟩ | ⟨-, -, -, h4, h5, h6, -⟩ <;> unfold dS dT dU at * <;> omega) (fun a' k z => Or.inl ⟨z.1, by rw [z.2]; exact Nat.le_refl _⟩)) (Gq.mono (fun _ _ z => z) (fun a k z => Or.inl z) (fun _ _ z => z))
  have u8 : ∀ k, hi u 8 k = hi g 8 k := fun k => s2.at (by unfold ndP ndC; omega)
  have u10 : ∀ k, hj u 10 k = hj g 10 k := fun k => s2.lg (by unfold ndJ; omega)
  have u11 : ∀ k, hj u 11 k = hj g 11 k := fun k => s2.lg (by unfold ndJ; omega)
  have DA1 : DA S es' et' eu' ad so e := by
    unfold DA
    rcases hh with ⟨h1, h2, h3, h4, h5, h6, h7, h8⟩ | ⟨h1, h2, h3, h4, h5, h6, h7, h8⟩ | ⟨h1, h2, h3, h4, h5, h6, h7, h8⟩
    · exact Or.inl ⟨h7, by omega, by rw [h6, h8]⟩
    · exact Or.inr (Or.inl ⟨h7, by omega, by rw [h6, h8]⟩)
    · exact Or.inr (Or.inr ⟨h7, by omega, by rw [h6, h8]⟩)
  have B2 := B1.defn DA1 (by omega) s7 q0.2.1 q0.2.2 (by rw [q0.1, s5, s6]; exact ⟨k, kc', rfl, by rw [u8]; exact q8, (u10 k).symm, (u11 k).symm⟩)
  obtain ⟨n1, n2, n3, n4, n5, n6, n7, n8, n9, n10⟩ := N
  refine ⟨s1.con FRX.refl Gx, B2, ⟨s4, q16, ?_, ?_, ?_, by rw [qk 20 (by decide) (by decide)]; exact n6, by rw [qk 31 (by decide) (by decide)]; exact n7, by rw [qk 41 (by decide) (by decide)]; exact n8, ?_, by rw [qk 46 (by decide) (by decide)]; exact n10⟩, Fq.ly Lh, FCg, Fq⟩
  · rcases hh with ⟨h1, h2, h3, h4, h5, h6, h7, h8⟩ | ⟨h1, h2, h3, h4, h5, h6, h7, h8⟩ | ⟨h1, h2, h3, h4, h5, h6, h7, h8⟩
    · rw [h5, h8] at s3; rw [h1]; exact s3
    · rw [s2.at (by unfold ndP ndC; omega), h1]; exact n3
    · rw [s2.at (by unfold ndP ndC; omega), h1]; exact n3
  · rcases hh with ⟨h1, h2, h3, h4, h5, h6, h7, h8⟩ | ⟨h1, h2, h3, h4, h5, h6, h7, h8⟩ | ⟨h1, h2, h3, h4, h5, h6, h7, h8⟩
    · unfold dS at h6; rw [s2.at (by unfold ndP ndC; omega), h2]; exact n4
    · rw [h5, h8] at s3; rw [h2]; exact s3
    · unfold dU at h6; rw [s2.at (by unfold ndP ndC; omega), h2]; exact n4
  · rcases hh with ⟨h1, h2, h3, h4, h5, h6, h7, h8⟩ | ⟨h1, h2, h3, h4, h5, h6, h7, h8⟩ | ⟨h1, h2, h3, h4, h5, h6, h7, h8⟩
    · unfold dS at h6; rw [s2.at (by unfold ndP ndC; omega), h3]; exact n5
    · unfold dT at h6; rw [s2.at (by unfold ndP ndC; omega), h3]; exact n5
    · rw [h5, h8] at s3; rw [h3]; exact s3
  · rw [s2.at (by unfold ndP ndC; omega)]; exact n9
end Df
