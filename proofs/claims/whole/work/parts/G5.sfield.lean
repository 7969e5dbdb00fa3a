/-! The parsers: a field of a struct -/

/-- counters -/
def CN (S t nd ns nt nu na es et eu : Nat) (g h : XH) : Prop := hi g S 4 = nI nd ∧ hi h 1262 16 = nI nd ∧ hi g (S + 1) 1 = nI es ∧ hi g (S + 195) 1 = nI et ∧ hi g (S + 517) 1 = nI eu ∧ hi h 1262 20 = nI ns ∧ hi h 1262 31 = nI nt ∧ hi h 1262 41 = nI nu ∧ hi g t 3 = nI na ∧ hi h 1262 46 = nI na
def sfP (t a a' k : Nat) : Prop := (a' = a ∧ (k = 3 ∨ k = 4)) ∨ (a' = t ∧ (k = 5 ∨ k = 6 ∨ k = 7 ∨ k = 8))
def bSP (S t ns f a k : Nat) : Prop := (a = t ∧ 5 ≤ k ∧ k ≤ 8) ∨ (dS S ns + 2 + f ≤ a ∧ a < dS S ns + 14 ∧ 2 ≤ k) ∨ (a = dS S ns ∧ k = 3)
def bSJ (S ns f a _k : Nat) : Prop := a = 1316 ∨ (dS S ns + 2 + f ≤ a ∧ a < dS S ns + 14)
def bSM (ns f a k : Nat) : Prop := (a = 1262 ∧ 13 ≤ k ∧ k ≤ 15) ∨ ((a = 1273 ∨ a = 1274 ∨ a = 1275 ∨ a = 1280) ∧ k = ns) ∨ (1276 ≤ a ∧ a ≤ 1279 ∧ 12 * ns + f ≤ k) ∨ ((a = 1281 ∨ a = 1282) ∧ 128 * ns ≤ k)
def sJ (a _k : Nat) : Prop := a = 1316
section Sf
variable {so o zS aS mS : Nat → Nat} {lS pS : Nat → Nat → Nat} {T : Nat → Nat} {n c S t nd ns fs nt ft nu fu na es et eu lo k : Nat} {g h u p : XH}
theorem ST.scq (A : ST T n c g h t S k) : SC g S := by
  rcases A.1.2.2.2.1 with q | q <;> subst q
  · exact A.1.1.2.2.2.2.2.1
  · exact A.1.1.2.2.2.2.2.2
theorem CN.fr {P J W P2 J2 W2 : Nat → Nat → Prop} (A : CN S t nd ns nt nu na es et eu g h) (F : FRX P J W g u) (G : FRX P2 J2 W2 h p) (w : ¬ P S 4 ∧ ¬ P (S + 1) 1 ∧ ¬ P (S + 195) 1 ∧ ¬ P (S + 517) 1 ∧ ¬ P t 3) (v : ¬ P2 1262 16 ∧ ¬ P2 1262 20 ∧ ¬ P2 1262 31 ∧ ¬ P2 1262 41 ∧ ¬ P2 1262 46) : CN S t nd ns nt nu na es et eu u p := by
  unfold CN
  rw [F.at w.1, F.at w.2.1, F.at w.2.2.1, F.at w.2.2.2.1, F.at w.2.2.2.2, G.at v.1, G.at v.2.1, G.at v.2.2.1, G.at v.2.2.2.1, G.at v.2.2.2.2]
  exact A
theorem e_m_isScalar (A : ST T n c g h t S k) : (hi g 8 k = 4 ∧ ∃ w, w < 11 ∧ hj g 10 k = lN w ∧ hi h 1269 k = nI w ∧ f_m_isScalar h = some (1, h)) ∨ (¬ hi g 8 k = 4 ∧ f_m_isScalar h = some (0, h)) := by
  obtain ⟨P, K, kc', a5, a6, m13', m14'⟩ := A
  have c4 := K.2.2.2.1
  unfold f_m_isScalar
  rw [m13', nI_clamp (show k < 2 ^ 31 by omega)]
  rcases (K.2.2.2.2.1 k kc').scal with ⟨q, w, w1, w2, w3, w4⟩ | ⟨q, w⟩
  · refine Or.inl ⟨q, w, w1, w2, w4, o_neg (not_not_intro m14') (o_pos (by (first | (simp (maxSteps := 4000000) (disch := omega) only [n_0, n_1, n_2, n_3, n_4, n_5, n_6, n_7, n_8, n_9, n_10, n_11, n_12, n_13, n_14, n_15, n_16, n_18, n_20, n_24, n_31, n_32, n_34, n_40, n_41, n_44, n_45, n_47, n_48, n_57, n_58, n_59, n_61, n_63, n_64, n_65, n_68, n_90, n_91, n_93, n_95, n_97, n_100, n_122, n_123, n_125, n_128, n_144, n_200, n_255, n_256, n_300, n_400, n_600, n_1536, n_3980, n_4000, n_4001, n_4300, n_65536, l_0, l_1, l_2, l_3, l_4, l_10, l_48, l_63, l_255, l_300, nI_ltI, nI_leI, nI_eq, nI_clamp, nI_add, pk_sub, pk_mul, nI_ne1, ne1_nI, nI_pge, nI_nlt0, nI_l, lN_i, lN_add, lN_mul, lN_sub, pk_lLT, pk_lLE, pk_lEQ, lg_lt, lg_ge, lg_eq0, lg_le, lg_gt, lg_ltn, lg_gen, lg_eq0n, lg_len, lg_gtn, Nat.zero_le, Nat.not_lt_zero, not_false_eq_true, not_true_eq_false, true_and, and_true]; done) | (simp (maxSteps := 4000000) (disch := omega) only [n_0, n_1, n_2, n_3, n_4, n_5, n_6, n_7, n_8, n_9, n_10, n_11, n_12, n_13, n_14, n_15, n_16, n_18, n_20, n_24, n_31, n_32, n_34, n_40, n_41, n_44, n_45, n_47, n_48, n_57, n_58, n_59, n_61, n_63, n_64, n_65, n_68, n_90, n_91, n_93, n_95, n_97, n_100, n_122, n_123, n_125, n_128, n_144, n_200, n_255, n_256, n_300, n_400, n_600, n_1536, n_3980, n_4000, n_4001, n_4300, n_65536, l_0, l_1, l_2, l_3, l_4, l_10, l_48, l_63, l_255, l_300, nI_ltI, nI_leI, nI_eq, nI_clamp, nI_add, pk_sub, pk_mul, nI_ne1, ne1_nI, nI_pge, nI_nlt0, nI_l, lN_i, lN_add, lN_mul, lN_sub, pk_lLT, pk_lLE, pk_lEQ, lg_lt, lg_ge, lg_eq0, lg_le, lg_gt, lg_ltn, lg_gen, lg_eq0n, lg_len, lg_gtn, Nat.zero_le, Nat.not_lt_zero, not_false_eq_true, not_true_eq_false, true_and, and_true]; omega) | omega)) (o_neg (not_not_intro w3) (o_neg ?_ (o_neg ?_ rfl))))⟩
    · rw [w4]; (first | (simp (maxSteps := 4000000) (disch := omega) only [n_0, n_1, n_2, n_3, n_4, n_5, n_6, n_7, n_8, n_9, n_10, n_11, n_12, n_13, n_14, n_15, n_16, n_18, n_20, n_24, n_31, n_32, n_34, n_40, n_41, n_44, n_45, n_47, n_48, n_57, n_58, n_59, n_61, n_63, n_64, n_65, n_68, n_90, n_91, n_93, n_95, n_97, n_100, n_122, n_123, n_125, n_128, n_144, n_200, n_255, n_256, n_300, n_400, n_600, n_1536, n_3980, n_4000, n_4001, n_4300, n_65536, l_0, l_1, l_2, l_3, l_4, l_10, l_48, l_63, l_255, l_300, nI_ltI, nI_leI, nI_eq, nI_clamp, nI_add, pk_sub, pk_mul, nI_ne1, ne1_nI, nI_pge, nI_nlt0, nI_l, lN_i, lN_add, lN_mul, lN_sub, pk_lLT, pk_lLE, pk_lEQ, lg_lt, lg_ge, lg_eq0, lg_le, lg_gt, lg_ltn, lg_gen, lg_eq0n, lg_len, lg_gtn, Nat.zero_le, Nat.not_lt_zero, not_false_eq_true, not_true_eq_false, true_and, and_true]; done) | (simp (maxSteps := 4000000) (disch := omega) only [n_0, n_1, n_2, n_3, n_4, n_5, n_6, n_7, n_8, n_9, n_10, n_11, n_12, n_13, n_14, n_15, n_16, n_18, n_20, n_24, n_31, n_32, n_34, n_40, n_41, n_44, n_45, n_47, n_48, n_57, n_58, n_59, n_61, n_63, n_64, n_65, n_68, n_90, n_91, n_93, n_95, n_97, n_100, n_122, n_123, n_125, n_128, n_144, n_200, n_255, n_256, n_300, n_400, n_600, n_1536, n_3980, n_4000, n_4001, n_4300, n_65536, l_0, l_1, l_2, l_3, l_4, l_10, l_48, l_63, l_255, l_300, nI_ltI, nI_leI, nI_eq, nI_clamp, nI_add, pk_sub, pk_mul, nI_ne1, ne1_nI, nI_pge, nI_nlt0, nI_l, lN_i, lN_add, lN_mul, lN_sub, pk_lLT, pk_lLE, pk_lEQ, lg_lt, lg_ge, lg_eq0, lg_le, lg_gt, lg_ltn, lg_gen, lg_eq0n, lg_len, lg_gtn, Nat.zero_le, Nat.not_lt_zero, not_false_eq_true, not_true_eq_false, true_and, and_true]; omega) | omega)
    · rw [w4]; (first | (simp (maxSteps := 4000000) (disch := omega) only [n_0, n_1, n_2, n_3, n_4, n_5, n_6, n_7, n_8, n_9, n_10, n_11, n_12, n_13, n_14, n_15, n_16, n_18, n_20, n_24, n_31, n_32, n_34, n_40, n_41, n_44, n_45, n_47, n_48, n_57, n_58, n_59, n_61, n_63, n_64, n_65, n_68, n_90, n_91, n_93, n_95, n_97, n_100, n_122, n_123, n_125, n_128, n_144, n_200, n_255, n_256, n_300, n_400, n_600, n_1536, n_3980, n_4000, n_4001, n_4300, n_65536, l_0, l_1, l_2, l_3, l_4, l_10, l_48, l_63, l_255, l_300, nI_ltI, nI_leI, nI_eq, nI_clamp, nI_add, pk_sub, pk_mul, nI_ne1, ne1_nI, nI_pge, nI_nlt0, nI_l, lN_i, lN_add, lN_mul, lN_sub, pk_lLT, pk_lLE, pk_lEQ, lg_lt, lg_ge, lg_eq0, lg_le, lg_gt, lg_ltn, lg_gen, lg_eq0n, lg_len, lg_gtn, Nat.zero_le, Nat.not_lt_zero, not_false_eq_true, not_true_eq_false, true_and, and_true]; done) | (simp (maxSteps := 4000000) (disch := omega) only [n_0, n_1, n_2, n_3, n_4, n_5, n_6, n_7, n_8, n_9, n_10, n_11, n_12, n_13, n_14, n_15, n_16, n_18, n_20, n_24, n_31, n_32, n_34, n_40, n_41, n_44, n_45, n_47, n_48, n_57, n_58, n_59, n_61, n_63, n_64, n_65, n_68, n_90, n_91, n_93, n_95, n_97, n_100, n_122, n_123, n_125, n_128, n_144, n_200, n_255, n_256, n_300, n_400, n_600, n_1536, n_3980, n_4000, n_4001, n_4300, n_65536, l_0, l_1, l_2, l_3, l_4, l_10, l_48, l_63, l_255, l_300, nI_ltI, nI_leI, nI_eq, nI_clamp, nI_add, pk_sub, pk_mul, nI_ne1, ne1_nI, nI_pge, nI_nlt0, nI_l, lN_i, lN_add, lN_mul, lN_sub, pk_lLT, pk_lLE, pk_lEQ, lg_lt, lg_ge, lg_eq0, lg_le, lg_gt, lg_ltn, lg_gen, lg_eq0n, lg_len, lg_gtn, Nat.zero_le, Nat.not_lt_zero, not_false_eq_true, not_true_eq_false, true_and, and_true]; omega) | omega)
  · refine Or.inr ⟨q, o_neg (not_not_intro m14') (o_pos (by (first | (simp (maxSteps := 4000000) (disch := omega) only [n_0, n_1, n_2, n_3, n_4, n_5, n_6, n_7, n_8, n_9, n_10, n_11, n_12, n_13, n_14, n_15, n_16, n_18, n_20, n_24, n_31, n_32, n_34, n_40, n_41, n_44, n_45, n_47, n_48, n_57, n_58, n_59, n_61, n_63, n_64, n_65, n_68, n_90, n_91, n_93, n_95, n_97, n_100, n_122, n_123, n_125, n_128, n_144, n_200, n_255, n_256, n_300, n_400, n_600, n_1536, n_3980, n_4000, n_4001, n_4300, n_65536, l_0, l_1, l_2, l_3, l_4, l_10, l_48, l_63, l_255, l_300, nI_ltI, nI_leI, nI_eq, nI_clamp, nI_add, pk_sub, pk_mul, nI_ne1, ne1_nI, nI_pge, nI_nlt0, nI_l, lN_i, lN_add, lN_mul, lN_sub, pk_lLT, pk_lLE, pk_lEQ, lg_lt, lg_ge, lg_eq0, lg_le, lg_gt, lg_ltn, lg_gen, lg_eq0n, lg_len, lg_gtn, Nat.zero_le, Nat.not_lt_zero, not_false_eq_true, not_true_eq_false, true_and, and_true]; done) | (simp (maxSteps := 4000000) (disch := omega) only [n_0, n_1, n_2, n_3, n_4, n_5, n_6, n_7, n_8, n_9, n_10, n_11, n_12, n_13, n_14, n_15, n_16, n_18, n_20, n_24, n_31, n_32, n_34, n_40, n_41, n_44, n_45, n_47, n_48, n_57, n_58, n_59, n_61, n_63, n_64, n_65, n_68, n_90, n_91, n_93, n_95, n_97, n_100, n_122, n_123, n_125, n_128, n_144, n_200, n_255, n_256, n_300, n_400, n_600, n_1536, n_3980, n_4000, n_4001, n_4300, n_65536, l_0, l_1, l_2, l_3, l_4, l_10, l_48, l_63, l_255, l_300, nI_ltI, nI_leI, nI_eq, nI_clamp, nI_add, pk_sub, pk_mul, nI_ne1, ne1_nI, nI_pge, nI_nlt0, nI_l, lN_i, lN_add, lN_mul, lN_sub, pk_lLT, pk_lLE, pk_lEQ, lg_lt, lg_ge, lg_eq0, lg_le, lg_gt, lg_ltn, lg_gen, lg_eq0n, lg_len, lg_gtn, Nat.zero_le, Nat.not_lt_zero, not_false_eq_true, not_true_eq_false, true_and, and_true]; omega) | omega)) ?_)⟩
    by_cases s1 : hi h 1266 k = 2
    · refine o_neg (not_not_intro s1) ?_
      by_cases s2 : hi h 1269 k < 0
      · exact o_pos s2 rfl
      · refine o_neg s2 (o_pos ?_ rfl)
        rcases w with w | w | w
        · exact absurd s1 w
        · exact absurd w s2
        · exact w
    · exact o_pos s1 rfl
theorem e_p_adv (A : ST T n c g h t S k) (q : ¬ (hi g 8 k = 0 ∨ hi g 8 k = 1)) : ∃ u, f_p_advance t g = some ((), u) ∧ ST T n c u (hsi h 1262 13 (nI (k + 1))) t S (k + 1) ∧ FRM (tP t) g u :=
  ⟨_, e_p_advance A q, A.nx q, (FRM.refl.si (by simp [tP])).si (by simp [tP])⟩
theorem KC.da {ad so' no : Nat} (K : KC g S) (D : DA S es et eu ad so' no) (l1 : es ≤ 12) (l2 : et ≤ 16) (l3 : eu ≤ 8) : hi g ad 0 = nI so' ∧ hi g ad 1 = nI no := by
  obtain ⟨k1, k2, k3⟩ := K.2 S K.1
  rcases D with ⟨q1, q2, q3⟩ | ⟨q1, q2, q3⟩ | ⟨q1, q2, q3⟩ <;> subst q1 <;> subst q3
  · exact k1 no (by omega)
  · exact k2 no (by omega)
  · exact k3 no (by omega)
/-- the type of a struct's field -/
theorem structType2 {f : Nat} (A : ST T n c g h t S k) (B : BG T n c S t nd ns fs nt ft nu fu na es et eu lo g h) (N : CN S t nd ns nt nu na es et eu g h) (O : OLP ns zS aS mS lS pS) (CM : OLM ns zS aS mS lS pS h) (Q : FO so o ns f) (M : SM ns f so o zS aS mS lS pS h) (hes : es = ns + 1) (hf : f < 12) : (∃ u p so' o', f_p_readStructType t (dS S ns) (dS S ns + 2 + f) g = some (1, u) ∧ f_m_structType (nI ns) (nI (12 * ns + f)) h = some ((), p) ∧ ST T n c u p t S (k + 1) ∧ FRX (sfP t (dS S ns + 2 + f)) sJ nW g u ∧ FRX (stM ns f) sJ nW h p ∧ SM ns (f + 1) so' o' zS aS mS lS pS p ∧ FO so' o' ns (f + 1) ∧ hi u (dS S ns + 2 + f) 3 = nI (so' f) ∧ hi u (dS S ns + 2 + f) 4 = nI (o' f)) ∨ (∃ u p, f_p_readStructType t (dS S ns) (dS S ns + 2 + f) g = some (0, u) ∧ f_m_structType (nI ns) (nI (12 * ns + f)) h = some ((), p) ∧ FLT u p t ∧ FRM (tF t) g u ∧ FRM m14 h p) := by
  have A' := A
  obtain ⟨P, K, kc', a5, a6, m13', m14'⟩ := A'
  obtain ⟨BM, BK, BD, -, -, -, -, -, -, -, -, ⟨l1, l2, l3, l4, l5, l6, l7, l8, l9, l10, -⟩⟩ := B
  have c4 := K.2.2.2.1
  have t17 := P.2.1
  have S1 := P.2.2.2.1
  have L := A.scq
  have D := L.ddS (s := ns) (by omega)
  have d1 : dS S ns < hz g ∧ hk g (dS S ns) = 2 := ⟨by have := D.1; omega, D.2.2.2.2.1⟩
  have f1 : dS S ns + 2 + f < hz g ∧ hk g (dS S ns + 2 + f) = 3 := ⟨by have := D.1; omega, (D.2.2.2.2.2.2.2.2.1 f hf).2⟩
  have s9 : S < hz g ∧ hk g S = 9 := ⟨by have := L.1; omega, L.2.2.1⟩
  have hd : f_x_head (hi g t 5) g = some (hj g 10 k, g) := by rw [a5]; exact e_x_head (u := g) K kc' rfl
  have tl : f_x_tail (hi g t 5) g = some (hj g 11 k, g) := by rw [a5]; exact e_x_tail (u := g) K kc' rfl
  have dr : S + 3 ≤ dS S ns ∧ dS S ns + 16 ≤ S + 195 := by unfold dS; omega
  -- both go on with a sort and a number
  have go : ∀ (x y : Nat) (x3 : Int32), ((x = 0 ∧ y < 11) ∨ (x = 2 ∧ y < ns)) → ((x = 0 ∧ x3 = -1 ∧ hi h 1269 k = nI y) ∨ (x = 2 ∧ x3 = nI y)) → (hi g 8 k = 2 ∨ hi g 8 k = 4) → ∃ u p so' o', b_p_readStructType_115 t (hsi (hsi g (dS S ns + 2 + f) 3 (nI x)) (dS S ns + 2 + f) 4 (nI y)) = some (1, u) ∧ b_m_structType_93 (nI ns) (nI (12 * ns + f)) x3 h = some ((), p) ∧ ST T n c u p t S (k + 1) ∧ FRX (sfP t (dS S ns + 2 + f)) sJ nW g u ∧ FRX (stM ns f) sJ nW h p ∧ SM ns (f + 1) so' o' zS aS mS lS pS p ∧ FO so' o' ns (f + 1) ∧ hi u (dS S ns + 2 + f) 3 = nI (so' f) ∧ hi u (dS S ns + 2 + f) 4 = nI (o' f) := by
    intro x y x3 q1 q2 q3
    obtain ⟨g1, e1⟩ : ∃ g1, g1 = hsi (hsi g (dS S ns + 2 + f) 3 (nI x)) (dS S ns + 2 + f) 4 (nI y) := ⟨_, rfl⟩
    have F1 : FRX (sfP t (dS S ns + 2 + f)) nW nW g g1 := by
      rw [e1]
      exact (FRX.refl.si (Or.inl ⟨rfl, Or.inl rfl⟩)).si (Or.inl ⟨rfl, Or.inr rfl⟩)
    have F1' : FRX (fun a' k => a' = dS S ns + 2 + f) nW nW g g1 := by
      rw [e1]
      exact FRX.si (FRX.si FRX.refl (P := fun a' k => a' = dS S ns + 2 + f) (a0 := dS S ns + 2 + f) rfl) (P := fun a' k => a' = dS S ns + 2 + f) (a0 := dS S ns + 2 + f) rfl
    have ST1 : ST T n c g1 h t S k := A.con (F1'.mono (fun a' k z => by unfold xP; omega) (fun _ _ z => z.elim) (fun _ _ z => z.elim)) FRX.refl
    have n8 : hi g1 8 k = hi g 8 k := F1'.at (by omega)
    obtain ⟨u, u1, u2, u3⟩ := e_p_adv ST1 (by rw [n8]; rcases q3 with q | q <;> rw [q] <;> decide)
    obtain ⟨so', es'⟩ : ∃ so' : Nat → Nat, so' = fun j => if j = f then x else so j := ⟨_, rfl⟩
    obtain ⟨o', eo'⟩ : ∃ o' : Nat → Nat, o' = fun j => if j = f then y else o j := ⟨_, rfl⟩
    have sf : so' f = x := by rw [es']; exact if_pos rfl
    have of : o' f = y := by rw [eo']; exact if_pos rfl
    have sn : ∀ j, j < f → so j = so' j ∧ o j = o' j := fun j hj' => by
      rw [es', eo']
      exact ⟨(if_neg (by omega)).symm, (if_neg (by omega)).symm⟩
    have Q' : FO so' o' ns (f + 1) := by
      intro j hj'
      by_cases cj : j = f
      · rw [cj, sf, of]; exact q1
      · rw [← (sn j (by omega)).1, ← (sn j (by omega)).2]; exact Q j (by omega)
    obtain ⟨p, p1, p2, p3, p4⟩ := e_m_st93 (x3 := x3) O CM Q' (by omega) hf (M.ext sn) m14' m13' (by omega) (by rw [sf, of]; exact q2)
    have G : FRX xM nJ nW (hsi h 1262 13 (nI (k + 1))) p := by
      refine ⟨p3.1, p3.2.1, fun a k z => p3.2.2.1 a k (fun z => z), fun a' k' z => ?_⟩
      by_cases e : a' = 1262 ∧ k' = 13
      · rw [e.1, e.2, hi_at]
        exact p4
      · rw [hi_hsi, if_neg e]
        refine p3.at (fun w => z ?_)
        unfold stM at w
        unfold xM
        omega
    have ua : ∀ k, hi u (dS S ns + 2 + f) k = hi g1 (dS S ns + 2 + f) k := fun k => u3.at (by unfold tP; omega)
    refine ⟨u, p, so', o', ?_, p1, u2.con FRX.refl G, ?_, p3.mono (fun _ _ z => z) (fun _ _ z => z.elim) (fun _ _ z => z), p2, Q', ?_, ?_⟩
    · rw [← e1]
      unfold b_p_readStructType_115
      exact o_pos ST1.1.tk (o_bind u1 rfl)
    · exact (F1.mono (fun _ _ z => z) (fun _ _ z => z.elim) (fun _ _ z => z)).trans (u3.x (fun a' k z => by unfold tP at z; unfold sfP; omega) (fun k => rfl))
    · rw [ua, sf, e1, hi_nk (by decide), hi_at]
    · rw [ua, of, e1, hi_at]
  -- both fail with 5
  have no5 : hi g 8 k = 2 → ∃ u p, b_p_readStructType_87 t g = some (0, u) ∧ f_m_flaw 5 h = some ((), p) ∧ FLT u p t ∧ FRM (tF t) g u ∧ FRM m14 h p := by
    intro q
    obtain ⟨u, p, s1, s2, s3, s4, s5, s6⟩ := A.fl (x := 5) (by rw [q]; decide) (by decide)
    refine ⟨u, p, ?_, s2, s3, s4, s5⟩
    unfold b_p_readStructType_87
    exact o_pos P.tk (o_bind s1 (o_pos (Or.inl rfl) rfl))
  unfold f_p_readStructType f_m_structType
  rcases e_m_isName A with ⟨q, m1⟩ | ⟨q, m1⟩
  · have k4 : ¬ hi g t 6 = 4 := by rw [a6, q]; decide
    have k2 : hi g t 6 = 2 := by rw [a6, q]
    have sc : ∀ {r : Option Nat} {X : Option (Int32 × XH)}, f_s_named S (hj g 10 k) (hj g 11 k) g = some (r, g) → Option.elim r (b_p_readStructType_87 t g) (fun b37 => (if b37 < hz g ∧ hk g b37 = 2 then (if dS S ns < hz g ∧ hk g (dS S ns) = 2 then (if b37 = dS S ns then (b_p_readStructType_87 t g) else (if (hi g b37 0) = 2 then (if dS S ns + 2 + f < hz g ∧ hk g (dS S ns + 2 + f) = 3 then (b_p_readStructType_115 t (hsi (hsi g (dS S ns + 2 + f) 3 2) (dS S ns + 2 + f) 4 (hi g b37 1))) else none) else (b_p_readStructType_87 t g))) else none) else none)) = X → f_p_readStructType t (dS S ns) (dS S ns + 2 + f) g = X := fun r1 r2 => by
      unfold f_p_readStructType
      exact o_pos P.tk (o_pos k4 (o_neg (not_not_intro k2) (o_bind P.2.2.2.2.2.2.1 (o_bind P.2.2.2.2.2.1 (o_pos rfl (o_bind hd (o_pos P.tk (o_bind P.2.2.2.2.2.1 (o_pos rfl (o_bind tl (o_pos s9 (o_bind r1 r2))))))))))))
    have sm : ∀ {r : Int32} {X : Option (Unit × XH)}, f_m_definition (nI k) h = some (r, h) → (if r = (-1) then (b_m_structType_65 (nI ns) (nI (12 * ns + f)) h) else (if 0 ≤ r ∧ r < nI 40 then (if ¬ (hi h 1271 (Int32.toNatClampNeg r)) = 2 then (b_m_structType_65 (nI ns) (nI (12 * ns + f)) h) else (if nI ns ≤ (hi h 1272 (Int32.toNatClampNeg r)) then (b_m_structType_65 (nI ns) (nI (12 * ns + f)) h) else (b_m_structType_66 (nI ns) (nI (12 * ns + f)) (hi h 1272 (Int32.toNatClampNeg r)) h))) else none)) = X → f_m_structType (nI ns) (nI (12 * ns + f)) h = X := fun r1 r2 => by
      unfold f_m_structType
      exact o_pos m14' (o_bind m1 (o_neg one0 (o_bind (by rw [m13']; exact r1) r2)))
    have m65 : ∀ {X : Option (Unit × XH)}, (Option.bind (f_m_flaw 5 h) fun r31 => some ((), r31.2)) = X → b_m_structType_65 (nI ns) (nI (12 * ns + f)) h = X := fun r => by
      unfold b_m_structType_65 b_m_structType_66
      exact o_neg (not_not_intro rfl) r
    show (∃ u p so' o', f_p_readStructType t (dS S ns) (dS S ns + 2 + f) g = some (1, u) ∧ f_m_structType (nI ns) (nI (12 * ns + f)) h = some ((), p) ∧ _) ∨ ∃ u p, f_p_readStructType t (dS S ns) (dS S ns + 2 + f) g = some (0, u) ∧ f_m_structType (nI ns) (nI (12 * ns + f)) h = some ((), p) ∧ _
    rcases named2 BM K L l3 l6 l9 l10 BD N.1 N.2.1 kc' q with ⟨w1, w2⟩ | ⟨d, ad, sx, no, dl, da, w1, w2, w3, w4⟩
    · obtain ⟨u, p, s1, s2, s3⟩ := no5 q
      exact Or.inr ⟨u, p, sc w1 (o_elimn s1), sm w2 (o_pos rfl (m65 (o_bind s2 rfl))), s3⟩
    · have ak := da.at L l3 l6 l9
      obtain ⟨z0, z1⟩ := BK.da da l3 l6 l9
      have d40 : ¬ nI d = -1 := nI_n1 (by omega)
      have dr' : (0 : Int32) ≤ nI d ∧ nI d < nI 40 := ⟨nI_pos' (by omega), by (first | (simp (maxSteps := 4000000) (disch := omega) only [n_0, n_1, n_2, n_3, n_4, n_5, n_6, n_7, n_8, n_9, n_10, n_11, n_12, n_13, n_14, n_15, n_16, n_18, n_20, n_24, n_31, n_32, n_34, n_40, n_41, n_44, n_45, n_47, n_48, n_57, n_58, n_59, n_61, n_63, n_64, n_65, n_68, n_90, n_91, n_93, n_95, n_97, n_100, n_122, n_123, n_125, n_128, n_144, n_200, n_255, n_256, n_300, n_400, n_600, n_1536, n_3980, n_4000, n_4001, n_4300, n_65536, l_0, l_1, l_2, l_3, l_4, l_10, l_48, l_63, l_255, l_300, nI_ltI, nI_leI, nI_eq, nI_clamp, nI_add, pk_sub, pk_mul, nI_ne1, ne1_nI, nI_pge, nI_nlt0, nI_l, lN_i, lN_add, lN_mul, lN_sub, pk_lLT, pk_lLE, pk_lEQ, lg_lt, lg_ge, lg_eq0, lg_le, lg_gt, lg_ltn, lg_gen, lg_eq0n, lg_len, lg_gtn, Nat.zero_le, Nat.not_lt_zero, not_false_eq_true, not_true_eq_false, true_and, and_true]; done) | (simp (maxSteps := 4000000) (disch := omega) only [n_0, n_1, n_2, n_3, n_4, n_5, n_6, n_7, n_8, n_9, n_10, n_11, n_12, n_13, n_14, n_15, n_16, n_18, n_20, n_24, n_31, n_32, n_34, n_40, n_41, n_44, n_45, n_47, n_48, n_57, n_58, n_59, n_61, n_63, n_64, n_65, n_68, n_90, n_91, n_93, n_95, n_97, n_100, n_122, n_123, n_125, n_128, n_144, n_200, n_255, n_256, n_300, n_400, n_600, n_1536, n_3980, n_4000, n_4001, n_4300, n_65536, l_0, l_1, l_2, l_3, l_4, l_10, l_48, l_63, l_255, l_300, nI_ltI, nI_leI, nI_eq, nI_clamp, nI_add, pk_sub, pk_mul, nI_ne1, ne1_nI, nI_pge, nI_nlt0, nI_l, lN_i, lN_add, lN_mul, lN_sub, pk_lLT, pk_lLE, pk_lEQ, lg_lt, lg_ge, lg_eq0, lg_le, lg_gt, lg_ltn, lg_gen, lg_eq0n, lg_len, lg_gtn, Nat.zero_le, Nat.not_lt_zero, not_false_eq_true, not_true_eq_false, true_and, and_true]; omega) | omega)⟩
      have dc : (nI d).toNatClampNeg = d := nI_clamp (by omega)
      rcases da with ⟨q1, q2, q3⟩ | ⟨q1, q2, q3⟩ | ⟨q1, q2, q3⟩
      · by_cases cn : no = ns
        · obtain ⟨u, p, s1, s2, s3⟩ := no5 q
          refine Or.inr ⟨u, p, sc w1 (o_elim (o_pos ak (o_pos d1 (o_pos (by rw [q3, cn]) s1)))), sm w2 (o_neg d40 (o_pos dr' ?_)), s3⟩
          rw [dc, w3, w4, q1, cn]
          exact o_neg (not_not_intro rfl) (o_pos (Int32.le_refl _) (m65 (o_bind s2 rfl)))
        · obtain ⟨u, p, so', o', s1, s2, s3⟩ := go 2 no (nI no) (Or.inr ⟨rfl, by omega⟩) (Or.inr ⟨rfl, rfl⟩) (Or.inl q)
          refine Or.inl ⟨u, p, so', o', sc w1 (o_elim (o_pos ak (o_pos d1 (o_neg (by rw [q3]; unfold dS; omega) (o_pos (by rw [z0, q1]; rfl) (o_pos f1 ?_)))))), sm w2 (o_neg d40 (o_pos dr' ?_)), s3⟩
          · rw [z1]
            exact s1
          · rw [dc, w3, w4, q1]
            refine o_neg (not_not_intro rfl) (o_neg (by (first | (simp (maxSteps := 4000000) (disch := omega) only [n_0, n_1, n_2, n_3, n_4, n_5, n_6, n_7, n_8, n_9, n_10, n_11, n_12, n_13, n_14, n_15, n_16, n_18, n_20, n_24, n_31, n_32, n_34, n_40, n_41, n_44, n_45, n_47, n_48, n_57, n_58, n_59, n_61, n_63, n_64, n_65, n_68, n_90, n_91, n_93, n_95, n_97, n_100, n_122, n_123, n_125, n_128, n_144, n_200, n_255, n_256, n_300, n_400, n_600, n_1536, n_3980, n_4000, n_4001, n_4300, n_65536, l_0, l_1, l_2, l_3, l_4, l_10, l_48, l_63, l_255, l_300, nI_ltI, nI_leI, nI_eq, nI_clamp, nI_add, pk_sub, pk_mul, nI_ne1, ne1_nI, nI_pge, nI_nlt0, nI_l, lN_i, lN_add, lN_mul, lN_sub, pk_lLT, pk_lLE, pk_lEQ, lg_lt, lg_ge, lg_eq0, lg_le, lg_gt, lg_ltn, lg_gen, lg_eq0n, lg_len, lg_gtn, Nat.zero_le, Nat.not_lt_zero, not_false_eq_true, not_true_eq_false, true_and, and_true]; done) | (simp (maxSteps := 4000000) (disch := omega) only [n_0, n_1, n_2, n_3, n_4, n_5, n_6, n_7, n_8, n_9, n_10, n_11, n_12, n_13, n_14, n_15, n_16, n_18, n_20, n_24, n_31, n_32, n_34, n_40, n_41, n_44, n_45, n_47, n_48, n_57, n_58, n_59, n_61, n_63, n_64, n_65, n_68, n_90, n_91, n_93, n_95, n_97, n_100, n_122, n_123, n_125, n_128, n_144, n_200, n_255, n_256, n_300, n_400, n_600, n_1536, n_3980, n_4000, n_4001, n_4300, n_65536, l_0, l_1, l_2, l_3, l_4, l_10, l_48, l_63, l_255, l_300, nI_ltI, nI_leI, nI_eq, nI_clamp, nI_add, pk_sub, pk_mul, nI_ne1, ne1_nI, nI_pge, nI_nlt0, nI_l, lN_i, lN_add, lN_mul, lN_sub, pk_lLT, pk_lLE, pk_lEQ, lg_lt, lg_ge, lg_eq0, lg_le, lg_gt, lg_ltn, lg_gen, lg_eq0n, lg_len, lg_gtn, Nat.zero_le, Nat.not_lt_zero, not_false_eq_true, not_true_eq_false, true_and, and_true]; omega) | omega)) ?_)
            unfold b_m_structType_66
            exact o_pos (nI_n1 (by omega)) s2
      · obtain ⟨u, p, s1, s2, s3⟩ := no5 q
        refine Or.inr ⟨u, p, sc w1 (o_elim (o_pos ak (o_pos d1 (o_neg (by rw [q3]; unfold dS dT; omega) (o_neg (by rw [z0, q1]; decide) s1))))), sm w2 (o_neg d40 (o_pos dr' ?_)), s3⟩
        rw [dc, w3, q1]
        exact o_pos (by decide) (m65 (o_bind s2 rfl))
      · obtain ⟨u, p, s1, s2, s3⟩ := no5 q
        refine Or.inr ⟨u, p, sc w1 (o_elim (o_pos ak (o_pos d1 (o_neg (by rw [q3]; unfold dS dU; omega) (o_neg (by rw [z0, q1]; decide) s1))))), sm w2 (o_neg d40 (o_pos dr' ?_)), s3⟩
        rw [dc, w3, q1]
        exact o_pos (by decide) (m65 (o_bind s2 rfl))
  · rcases e_m_isScalar A with ⟨q2, w, w1, w2, w3, w4⟩ | ⟨q2, w4⟩
    · obtain ⟨u, p, so', o', s1, s2, s3⟩ := go 0 w (-1) (Or.inl ⟨rfl, w1⟩) (Or.inl ⟨rfl, rfl, w3⟩) (Or.inr q2)
      refine Or.inl ⟨u, p, so', o', o_pos P.tk (o_neg (not_not_intro (by rw [a6]; exact q2)) (o_pos f1 (o_bind P.2.2.2.2.2.1 (o_pos rfl (o_bind (v := (lN w, hsi g (dS S ns + 2 + f) 3 0)) ?_ (o_pos f1 ?_)))))), o_pos m14' (o_bind m1 (o_pos rfl (o_bind w4 (o_pos one0 s2)))), s3⟩
      · rw [a5, e_x_head (u := hsi g (dS S ns + 2 + f) 3 0) K kc' (by rw [hi_hsi_ne (by omega)]), hj_hsi, w2]
      · have : Int64.toInt32 (lN w) = nI w := by (first | (simp (maxSteps := 4000000) (disch := omega) only [n_0, n_1, n_2, n_3, n_4, n_5, n_6, n_7, n_8, n_9, n_10, n_11, n_12, n_13, n_14, n_15, n_16, n_18, n_20, n_24, n_31, n_32, n_34, n_40, n_41, n_44, n_45, n_47, n_48, n_57, n_58, n_59, n_61, n_63, n_64, n_65, n_68, n_90, n_91, n_93, n_95, n_97, n_100, n_122, n_123, n_125, n_128, n_144, n_200, n_255, n_256, n_300, n_400, n_600, n_1536, n_3980, n_4000, n_4001, n_4300, n_65536, l_0, l_1, l_2, l_3, l_4, l_10, l_48, l_63, l_255, l_300, nI_ltI, nI_leI, nI_eq, nI_clamp, nI_add, pk_sub, pk_mul, nI_ne1, ne1_nI, nI_pge, nI_nlt0, nI_l, lN_i, lN_add, lN_mul, lN_sub, pk_lLT, pk_lLE, pk_lEQ, lg_lt, lg_ge, lg_eq0, lg_le, lg_gt, lg_ltn, lg_gen, lg_eq0n, lg_len, lg_gtn, Nat.zero_le, Nat.not_lt_zero, not_false_eq_true, not_true_eq_false, true_and, and_true]; done) | (simp (maxSteps := 4000000) (disch := omega) only [n_0, n_1, n_2, n_3, n_4, n_5, n_6, n_7, n_8, n_9, n_10, n_11, n_12, n_13, n_14, n_15, n_16, n_18, n_20, n_24, n_31, n_32, n_34, n_40, n_41, n_44, n_45, n_47, n_48, n_57, n_58, n_59, n_61, n_63, n_64, n_65, n_68, n_90, n_91, n_93, n_95, n_97, n_100, n_122, n_123, n_125, n_128, n_144, n_200, n_255, n_256, n_300, n_400, n_600, n_1536, n_3980, n_4000, n_4001, n_4300, n_65536, l_0, l_1, l_2, l_3, l_4, l_10, l_48, l_63, l_255, l_300, nI_ltI, nI_leI, nI_eq, nI_clamp, nI_add, pk_sub, pk_mul, nI_ne1, ne1_nI, nI_pge, nI_nlt0, nI_l, lN_i, lN_add, lN_mul, lN_sub, pk_lLT, pk_lLE, pk_lEQ, lg_lt, lg_ge, lg_eq0, lg_le, lg_gt, lg_ltn, lg_gen, lg_eq0n, lg_len, lg_gtn, Nat.zero_le, Nat.not_lt_zero, not_false_eq_true, not_true_eq_false, true_and, and_true]; omega) | omega)
        show b_p_readStructType_115 t (hsi (hsi g (dS S ns + 2 + f) 3 0) (dS S ns + 2 + f) 4 (Int64.toInt32 (lN w))) = _
        rw [this]
        exact s1
    · obtain ⟨u, p, s1, s2, s3, s4, s5, s6⟩ := A.mis
      refine Or.inr ⟨u, p, o_pos P.tk (o_pos (by rw [a6]; exact q2) (o_pos (by rw [a6]; exact q) (o_bind s1 (o_pos (Or.inl rfl) rfl)))), o_pos m14' (o_bind m1 (o_pos rfl (o_bind w4 (o_neg (not_not_intro rfl) (o_bind s2 rfl))))), s3, s4, s5⟩
end Sf
