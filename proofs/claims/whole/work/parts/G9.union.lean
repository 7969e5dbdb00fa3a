/-! The parsers: a union -/

section Aw
variable {T : Nat → Nat} {n c S t nd ns fs nt ft nu fu na es et eu lo k : Nat} {g h u p : XH}
theorem e_p_await {a : Nat} {x : Int32} (P : PO g t S) (ak : a < hz g ∧ hk g a = 3) (e : hi g t 3 = nI na) (hn' : na < 321) (ne : a ≠ t) : f_p_awaitDefinition t a x g = some ((), hsi (hsr (hsi g a 2 x) (t + 1) na (some a)) t 3 (nI (na + 1))) := by
  obtain ⟨L, p1, p2, p3, p4, p5, p6, p7, p8, p9, p10, p11⟩ := P
  have e2 : hi (hsr (hsi g a 2 x) (t + 1) na (some a)) t 3 = nI na := by rw [hi_hsr, hi_hsi_ne (Ne.symm ne)]; exact e
  unfold f_p_awaitDefinition
  rw [e, nI_clamp (show na < 2 ^ 31 by omega)]
  refine o_pos ak (o_pos ⟨by omega, p4⟩ (o_neg (by (first | (simp (maxSteps := 4000000) (disch := omega) only [n_0, n_1, n_2, n_3, n_4, n_5, n_6, n_7, n_8, n_9, n_10, n_11, n_12, n_13, n_14, n_15, n_16, n_18, n_20, n_24, n_31, n_32, n_34, n_40, n_41, n_44, n_45, n_47, n_48, n_57, n_58, n_59, n_61, n_63, n_64, n_65, n_68, n_90, n_91, n_93, n_95, n_97, n_100, n_122, n_123, n_125, n_128, n_144, n_200, n_255, n_256, n_300, n_400, n_600, n_1536, n_3980, n_4000, n_4001, n_4300, n_65536, l_0, l_1, l_2, l_3, l_4, l_10, l_48, l_63, l_255, l_300, nI_ltI, nI_leI, nI_eq, nI_clamp, nI_add, pk_sub, pk_mul, nI_ne1, ne1_nI, nI_pge, nI_nlt0, nI_l, lN_i, lN_add, lN_mul, lN_sub, pk_lLT, pk_lLE, pk_lEQ, lg_lt, lg_ge, lg_eq0, lg_le, lg_gt, lg_ltn, lg_gen, lg_eq0n, lg_len, lg_gtn, Nat.zero_le, Nat.not_lt_zero, not_false_eq_true, not_true_eq_false, true_and, and_true]; done) | (simp (maxSteps := 4000000) (disch := omega) only [n_0, n_1, n_2, n_3, n_4, n_5, n_6, n_7, n_8, n_9, n_10, n_11, n_12, n_13, n_14, n_15, n_16, n_18, n_20, n_24, n_31, n_32, n_34, n_40, n_41, n_44, n_45, n_47, n_48, n_57, n_58, n_59, n_61, n_63, n_64, n_65, n_68, n_90, n_91, n_93, n_95, n_97, n_100, n_122, n_123, n_125, n_128, n_144, n_200, n_255, n_256, n_300, n_400, n_600, n_1536, n_3980, n_4000, n_4001, n_4300, n_65536, l_0, l_1, l_2, l_3, l_4, l_10, l_48, l_63, l_255, l_300, nI_ltI, nI_leI, nI_eq, nI_clamp, nI_add, pk_sub, pk_mul, nI_ne1, ne1_nI, nI_pge, nI_nlt0, nI_l, lN_i, lN_add, lN_mul, lN_sub, pk_lLT, pk_lLE, pk_lEQ, lg_lt, lg_ge, lg_eq0, lg_le, lg_gt, lg_ltn, lg_gen, lg_eq0n, lg_len, lg_gtn, Nat.zero_le, Nat.not_lt_zero, not_false_eq_true, not_true_eq_false, true_and, and_true]; omega) | omega)) (o_bind p7 (o_pos ⟨by omega, p9⟩ ?_))))
  rw [p10]
  refine o_neg (by (first | (simp (maxSteps := 4000000) (disch := omega) only [n_0, n_1, n_2, n_3, n_4, n_5, n_6, n_7, n_8, n_9, n_10, n_11, n_12, n_13, n_14, n_15, n_16, n_18, n_20, n_24, n_31, n_32, n_34, n_40, n_41, n_44, n_45, n_47, n_48, n_57, n_58, n_59, n_61, n_63, n_64, n_65, n_68, n_90, n_91, n_93, n_95, n_97, n_100, n_122, n_123, n_125, n_128, n_144, n_200, n_255, n_256, n_300, n_400, n_600, n_1536, n_3980, n_4000, n_4001, n_4300, n_65536, l_0, l_1, l_2, l_3, l_4, l_10, l_48, l_63, l_255, l_300, nI_ltI, nI_leI, nI_eq, nI_clamp, nI_add, pk_sub, pk_mul, nI_ne1, ne1_nI, nI_pge, nI_nlt0, nI_l, lN_i, lN_add, lN_mul, lN_sub, pk_lLT, pk_lLE, pk_lEQ, lg_lt, lg_ge, lg_eq0, lg_le, lg_gt, lg_ltn, lg_gen, lg_eq0n, lg_len, lg_gtn, Nat.zero_le, Nat.not_lt_zero, not_false_eq_true, not_true_eq_false, true_and, and_true]; done) | (simp (maxSteps := 4000000) (disch := omega) only [n_0, n_1, n_2, n_3, n_4, n_5, n_6, n_7, n_8, n_9, n_10, n_11, n_12, n_13, n_14, n_15, n_16, n_18, n_20, n_24, n_31, n_32, n_34, n_40, n_41, n_44, n_45, n_47, n_48, n_57, n_58, n_59, n_61, n_63, n_64, n_65, n_68, n_90, n_91, n_93, n_95, n_97, n_100, n_122, n_123, n_125, n_128, n_144, n_200, n_255, n_256, n_300, n_400, n_600, n_1536, n_3980, n_4000, n_4001, n_4300, n_65536, l_0, l_1, l_2, l_3, l_4, l_10, l_48, l_63, l_255, l_300, nI_ltI, nI_leI, nI_eq, nI_clamp, nI_add, pk_sub, pk_mul, nI_ne1, ne1_nI, nI_pge, nI_nlt0, nI_l, lN_i, lN_add, lN_mul, lN_sub, pk_lLT, pk_lLE, pk_lEQ, lg_lt, lg_ge, lg_eq0, lg_le, lg_gt, lg_ltn, lg_gen, lg_eq0n, lg_len, lg_gtn, Nat.zero_le, Nat.not_lt_zero, not_false_eq_true, not_true_eq_false, true_and, and_true]; omega) | omega)) (o_pos ⟨nI_pos' (by omega), by (first | (simp (maxSteps := 4000000) (disch := omega) only [n_0, n_1, n_2, n_3, n_4, n_5, n_6, n_7, n_8, n_9, n_10, n_11, n_12, n_13, n_14, n_15, n_16, n_18, n_20, n_24, n_31, n_32, n_34, n_40, n_41, n_44, n_45, n_47, n_48, n_57, n_58, n_59, n_61, n_63, n_64, n_65, n_68, n_90, n_91, n_93, n_95, n_97, n_100, n_122, n_123, n_125, n_128, n_144, n_200, n_255, n_256, n_300, n_400, n_600, n_1536, n_3980, n_4000, n_4001, n_4300, n_65536, l_0, l_1, l_2, l_3, l_4, l_10, l_48, l_63, l_255, l_300, nI_ltI, nI_leI, nI_eq, nI_clamp, nI_add, pk_sub, pk_mul, nI_ne1, ne1_nI, nI_pge, nI_nlt0, nI_l, lN_i, lN_add, lN_mul, lN_sub, pk_lLT, pk_lLE, pk_lEQ, lg_lt, lg_ge, lg_eq0, lg_le, lg_gt, lg_ltn, lg_gen, lg_eq0n, lg_len, lg_gtn, Nat.zero_le, Nat.not_lt_zero, not_false_eq_true, not_true_eq_false, true_and, and_true]; done) | (simp (maxSteps := 4000000) (disch := omega) only [n_0, n_1, n_2, n_3, n_4, n_5, n_6, n_7, n_8, n_9, n_10, n_11, n_12, n_13, n_14, n_15, n_16, n_18, n_20, n_24, n_31, n_32, n_34, n_40, n_41, n_44, n_45, n_47, n_48, n_57, n_58, n_59, n_61, n_63, n_64, n_65, n_68, n_90, n_91, n_93, n_95, n_97, n_100, n_122, n_123, n_125, n_128, n_144, n_200, n_255, n_256, n_300, n_400, n_600, n_1536, n_3980, n_4000, n_4001, n_4300, n_65536, l_0, l_1, l_2, l_3, l_4, l_10, l_48, l_63, l_255, l_300, nI_ltI, nI_leI, nI_eq, nI_clamp, nI_add, pk_sub, pk_mul, nI_ne1, ne1_nI, nI_pge, nI_nlt0, nI_l, lN_i, lN_add, lN_mul, lN_sub, pk_lLT, pk_lLE, pk_lEQ, lg_lt, lg_ge, lg_eq0, lg_le, lg_gt, lg_ltn, lg_gen, lg_eq0n, lg_len, lg_gtn, Nat.zero_le, Nat.not_lt_zero, not_false_eq_true, not_true_eq_false, true_and, and_true]; omega) | omega), by decide⟩ (o_pos (Or.inl (by omega)) (o_pos ⟨show t < hz g by omega, p4⟩ ?_)))
  rw [e2, n_1, nI_add]
theorem e_m_ask {x y z : Int32} (m : hi h 1262 14 = 0) (e : hi h 1262 46 = nI na) (hn' : na < 400) : f_m_ask x y z h = some ((), hsi (hsi (hsi (hsi h 1295 na x) 1296 na y) 1297 na z) 1262 46 (nI (na + 1))) := by
  unfold f_m_ask
  rw [e, nI_clamp (show na < 2 ^ 31 by omega), n_1, nI_add]
  exact o_neg (not_not_intro m) (o_pos (by (first | (simp (maxSteps := 4000000) (disch := omega) only [n_0, n_1, n_2, n_3, n_4, n_5, n_6, n_7, n_8, n_9, n_10, n_11, n_12, n_13, n_14, n_15, n_16, n_18, n_20, n_24, n_31, n_32, n_34, n_40, n_41, n_44, n_45, n_47, n_48, n_57, n_58, n_59, n_61, n_63, n_64, n_65, n_68, n_90, n_91, n_93, n_95, n_97, n_100, n_122, n_123, n_125, n_128, n_144, n_200, n_255, n_256, n_300, n_400, n_600, n_1536, n_3980, n_4000, n_4001, n_4300, n_65536, l_0, l_1, l_2, l_3, l_4, l_10, l_48, l_63, l_255, l_300, nI_ltI, nI_leI, nI_eq, nI_clamp, nI_add, pk_sub, pk_mul, nI_ne1, ne1_nI, nI_pge, nI_nlt0, nI_l, lN_i, lN_add, lN_mul, lN_sub, pk_lLT, pk_lLE, pk_lEQ, lg_lt, lg_ge, lg_eq0, lg_le, lg_gt, lg_ltn, lg_gen, lg_eq0n, lg_len, lg_gtn, Nat.zero_le, Nat.not_lt_zero, not_false_eq_true, not_true_eq_false, true_and, and_true]; done) | (simp (maxSteps := 4000000) (disch := omega) only [n_0, n_1, n_2, n_3, n_4, n_5, n_6, n_7, n_8, n_9, n_10, n_11, n_12, n_13, n_14, n_15, n_16, n_18, n_20, n_24, n_31, n_32, n_34, n_40, n_41, n_44, n_45, n_47, n_48, n_57, n_58, n_59, n_61, n_63, n_64, n_65, n_68, n_90, n_91, n_93, n_95, n_97, n_100, n_122, n_123, n_125, n_128, n_144, n_200, n_255, n_256, n_300, n_400, n_600, n_1536, n_3980, n_4000, n_4001, n_4300, n_65536, l_0, l_1, l_2, l_3, l_4, l_10, l_48, l_63, l_255, l_300, nI_ltI, nI_leI, nI_eq, nI_clamp, nI_add, pk_sub, pk_mul, nI_ne1, ne1_nI, nI_pge, nI_nlt0, nI_l, lN_i, lN_add, lN_mul, lN_sub, pk_lLT, pk_lLE, pk_lEQ, lg_lt, lg_ge, lg_eq0, lg_le, lg_gt, lg_ltn, lg_gen, lg_eq0n, lg_len, lg_gtn, Nat.zero_le, Nat.not_lt_zero, not_false_eq_true, not_true_eq_false, true_and, and_true]; omega) | omega)) rfl)
theorem TF.up {a j : Nat} (A : TF c t es et eu lo na g h a j) : TF c t es et eu lo (na + 1) g h a j := by
  obtain ⟨a1, a2, a3, a4⟩ := A
  refine ⟨a1, a2, a3, a4.imp id fun ⟨q, i, i1, i2, i3⟩ => ⟨q, i, i1, by omega, i3⟩⟩
theorem UM.up {a j : Nat} (A : UM c t et lo na g h a j) : UM c t et lo (na + 1) g h a j := by
  obtain ⟨a1, a2⟩ := A
  exact ⟨a1, a2.imp id fun ⟨i, i1, i2, i3⟩ => ⟨i, i1, by omega, i3⟩⟩
theorem AE.up {ft' fu' i : Nat} (A : AE c S t nt ft nu fu g h i) (h1 : ft ≤ ft') (h2 : fu ≤ fu') : AE c S t nt ft' nu fu' g h i := by
  obtain ⟨a, k, w, x, a1, a2, a3, a4, a5, a6, a7, a9⟩ := A
  refine ⟨a, k, w, x, a1, a2, a3, a4, a5, a6, a7, a9.imp (fun ⟨s, f, q1, q2⟩ => ⟨s, f, by omega, q2⟩) (fun ⟨s, f, q1, q2⟩ => ⟨s, f, by omega, q2⟩)⟩
theorem AE.lt {i a : Nat} (A : AE c S t nt ft nu fu g h i) (e : hr g (t + 1) i = some a) : (∃ s f, (s < nt ∨ (s = nt ∧ f < ft)) ∧ s < 16 ∧ f < 16 ∧ a = dT S s + 2 + f) ∨ ∃ s f, (s < nu ∨ (s = nu ∧ f < fu)) ∧ s < 8 ∧ f < 8 ∧ a = dU S s + 2 + f := by
  obtain ⟨a', k, w, x, a1, a2, a3, a4, a5, a6, a7, a9⟩ := A
  rw [e] at a1
  injection a1 with a1
  rw [a1]
  rcases a9 with ⟨s, f, q1, q2, q3, q4, -⟩ | ⟨s, f, q1, q2, q3, q4, -⟩
  · exact Or.inl ⟨s, f, q1, q2, q3, q4⟩
  · exact Or.inr ⟨s, f, q1, q2, q3, q4⟩
/-- one more is awaited: a member of the union that is read -/
theorem BG.askU (A : BG T n c S t nd ns fs nt ft nu fu na es et eu 0 g h) (hf : fu < 8) (he : eu = nu + 1) (kc' : k < c) (q8 : hi g 8 k = 2) (r : hr g (t + 1) na = some (dU S nu + 2 + fu)) (i2 : hi g (dU S nu + 2 + fu) 2 = nI k) (i3 : hi g (dU S nu + 2 + fu) 3 = 3) (m95 : hi h 1295 na = nI k) (m96 : hi h 1296 na = 2) (m97 : hi h 1297 na = nI (8 * nu + fu)) (nm : NAq c g (hi h 1293 (8 * nu + fu)) (hj g (dU S nu + 2 + fu) 0) (hj g (dU S nu + 2 + fu) 1)) : BG T n c S t nd ns fs nt ft nu (fu + 1) (na + 1) es et eu 0 g h := by
  obtain ⟨M, K, D, SS, SC', TT, TC, UU, UC, E, I, ⟨l1, l2, l3, l4, l5, l6, l7, l8, l9, l10, l11, l12, l13, l14⟩⟩ := A
  refine ⟨M, K, D, SS, SC', fun s hs => ?_, fun f hf => (TC f hf).up, fun s hs => ?_, fun f hf' => ?_, fun i h1 h2 => ?_, fun i j h1 h2 => ?_, ⟨l1, l2, l3, l4, l5, l6, l7, l8, l9, l10, by omega, l12, l13, Or.inr ⟨by omega, he⟩⟩⟩
  · obtain ⟨m, m1, m2, m3, m4⟩ := TT s hs
    exact ⟨m, m1, m2, m3, fun f hf => (m4 f hf).up⟩
  · obtain ⟨m, m0, m1, m2, m3, m4⟩ := UU s hs
    exact ⟨m, m0, m1, m2, m3, fun f hf => (m4 f hf).up⟩
  · by_cases cf : f = fu
    · rw [cf]
      exact ⟨nm, Or.inr ⟨na, Nat.zero_le _, by omega, r⟩⟩
    · exact (UC f (by omega)).up
  · by_cases ci : i = na
    · rw [ci]
      exact ⟨_, k, 2, 8 * nu + fu, r, i2, m95, kc', q8, m96, m97, Or.inr ⟨nu, fu, Or.inr ⟨rfl, by omega⟩, by omega, hf, rfl, rfl, rfl, i3⟩⟩
    · exact (E i h1 (by omega)).up (Nat.le_refl _) (by omega)
  · by_cases cj : j = na
    · rw [cj, r]
      intro z
      have := (E i (Nat.zero_le i) (by omega)).lt z
      unfold dT dU at this
      omega
    · exact I i j h1 (by omega)
end Aw
/-- both in a union's body, behind f members -/
def UB (T : Nat → Nat) (n c S t nd ns nt nu na es et eu k f : Nat) (g h : XH) : Prop := ST T n c g h t S k ∧ BG T n c S t nd ns 0 nt 0 nu f na es et eu 0 g h ∧ CN S t nd ns nt nu na es et eu g h ∧ LY h ∧ hi g (dU S nu) 3 = nI f ∧ hi h 1292 nu = nI f ∧ eu = nu + 1
def bUP (S t nu f a k : Nat) : Prop := (a = t ∧ (k = 3 ∨ (5 ≤ k ∧ k ≤ 8))) ∨ (a = dU S nu + 2 + f ∧ 2 ≤ k) ∨ (a = dU S nu ∧ k = 3)
def bUJ (S nu f a _k : Nat) : Prop := a = 1316 ∨ a = dU S nu + 2 + f
def bUW (t na a k : Nat) : Prop := a = t + 1 ∧ na ≤ k
def bUM (nu f na a k : Nat) : Prop := (a = 1262 ∧ ((13 ≤ k ∧ k ≤ 15) ∨ k = 46)) ∨ (a = 1292 ∧ k = nu) ∨ (a = 1293 ∧ k = 8 * nu + f) ∨ (1295 ≤ a ∧ a ≤ 1297 ∧ na ≤ k)
/-- the rest of the model's turn -/
def RU (K : Int32 → Int32 → XH → Option (Unit × XH)) (x1 : Int32) (p : XH) : Option (Unit × XH) := Option.bind (f_m_isSign 44 p) fun r7 => if r7.1 = 0 then K x1 r7.1 r7.2 else Option.bind (f_m_take r7.2) fun r11 => K x1 r7.1 r11.2
section Ub
variable {T : Nat → Nat} {n c S t nd ns nt nu na es et eu k f : Nat} {g h u p : XH}
theorem bUP_y {KK : Nat → Nat} {a k : Nat} (hn' : nu < 8) (hf : f < 8) (z : bUP S t nu f a k) : yP KK S t ns 0 nt 0 nu f a k := by
  unfold bUP dU at z
  unfold yP dS dT dU
  rcases z with z | z | z
  · exact Or.inl z.1
  · exact Or.inr (Or.inr ⟨Or.inl (by omega), by omega⟩)
  · exact Or.inr (Or.inr ⟨Or.inl (by omega), by omega⟩)
theorem bUJ_y {a k : Nat} (hn' : nu < 8) (hf : f < 8) (z : bUJ S nu f a k) : yJ S t ns 0 nt 0 nu f es et eu a k := by
  rcases z with z | z
  · exact Or.inl z
  · refine Or.inr (Or.inr (Or.inr (Or.inr ?_)))
    unfold dU at *
    omega
theorem bUM_z {a k : Nat} (z : bUM nu f na a k) : zP nd ns 0 nt 0 nu f na a k := by
  rcases z with ⟨e, h1⟩ | ⟨e, h1⟩ | ⟨e, h1⟩ | ⟨h1, h2, h3⟩
  · exact Or.inl ⟨e, by omega⟩
  · exact Or.inr (Or.inr (Or.inr (Or.inr (Or.inr (Or.inr (Or.inr (Or.inl ⟨e, by omega⟩)))))))
  · exact Or.inr (Or.inr (Or.inr (Or.inr (Or.inr (Or.inr (Or.inr (Or.inr (Or.inl ⟨Or.inl e, by omega⟩))))))))
  · exact Or.inr (Or.inr (Or.inr (Or.inr (Or.inr (Or.inr (Or.inr (Or.inr (Or.inr ⟨h1, h2, h3⟩))))))))
/-- one member -/
theorem memberTurn (A : UB T n c S t nd ns nt nu na es et eu k f g h) (hf : f ≤ 8) : (∃ u p, f_p_readMember t (dU S nu) g = some (1, u) ∧ (∀ K, s_m_unionBody_14 K (nI nu) 1 h = RU K (nI nu) p) ∧ UB T n c S t nd ns nt nu (na + 1) es et eu (k + 1) (f + 1) u p ∧ f < 8 ∧ FC S t g u ∧ FMx h p) ∨ (∃ u p, f_p_readMember t (dU S nu) g = some (0, u) ∧ (∀ K, s_m_unionBody_14 K (nI nu) 1 h = RU K (nI nu) p) ∧ FLT u p t ∧ FC S t g u ∧ FMx h p) := by
  obtain ⟨ST0, B, N, Lh, e3, e92, heu⟩ := A
  have B' := B
  obtain ⟨BM, BK, BD, -, -, -, -, -, BU, -, -, ⟨l1, l2, l3, l4, l5, l6, l7, l8, l9, l10, l11, -⟩⟩ := B'
  have ST0' := ST0
  obtain ⟨P, K, kc', a5, a6, m13', m14'⟩ := ST0'
  have c4 := K.2.2.2.1
  have t17 := P.2.1
  have S1 := P.2.2.2.1
  have L := ST0.scq
  have n8 : nu < 8 := by omega
  have D := L.ddU (s := nu) n8
  have dr : S + 519 ≤ dU S nu ∧ dU S nu + 12 ≤ S + 615 := by unfold dU; omega
  have r93 : 1293 < hz h ∧ hk h 1293 = 100 := ⟨Lh.lt (by decide), Lh.k1293⟩
  have e8 : (8 : Int32) * nI nu = nI (8 * nu) := by rw [n_8, pk_mul]
  have sm : ∀ {K : Int32 → Int32 → XH → Option (Unit × XH)} {X : Option (Unit × XH)} {p1 : XH}, f_m_fresh 1293 (nI (8 * nu)) (nI f) (nI 8) h = some ((), p1) → (if ¬ (hi p1 1262 14) = 0 then (b_m_unionBody_94 K (nI nu) p1) else (if 0 ≤ nI (8 * nu + f) ∧ nI (8 * nu + f) < nI 64 then (Option.bind (f_m_ask (hi p1 1262 13) 2 (nI (8 * nu + f)) (hsi p1 1293 (8 * nu + f) (hi p1 1262 13))) fun r22 => (if 0 ≤ nI nu ∧ nI nu < nI 8 then (b_m_unionBody_94 K (nI nu) (hsi r22.2 1292 nu ((hi r22.2 1292 nu) + 1))) else none)) else none)) = X → s_m_unionBody_14 K (nI nu) 1 h = X := by
    intro K X p1 q1 q6
    unfold s_m_unionBody_14
    rw [nI_clamp (show nu < 2 ^ 31 by omega), e92, e8, nI_add, nI_clamp (show 8 * nu + f < 2 ^ 31 by omega)]
    exact o_neg one0 (o_neg (not_not_intro m14') (o_pos (by (first | (simp (maxSteps := 4000000) (disch := omega) only [n_0, n_1, n_2, n_3, n_4, n_5, n_6, n_7, n_8, n_9, n_10, n_11, n_12, n_13, n_14, n_15, n_16, n_18, n_20, n_24, n_31, n_32, n_34, n_40, n_41, n_44, n_45, n_47, n_48, n_57, n_58, n_59, n_61, n_63, n_64, n_65, n_68, n_90, n_91, n_93, n_95, n_97, n_100, n_122, n_123, n_125, n_128, n_144, n_200, n_255, n_256, n_300, n_400, n_600, n_1536, n_3980, n_4000, n_4001, n_4300, n_65536, l_0, l_1, l_2, l_3, l_4, l_10, l_48, l_63, l_255, l_300, nI_ltI, nI_leI, nI_eq, nI_clamp, nI_add, pk_sub, pk_mul, nI_ne1, ne1_nI, nI_pge, nI_nlt0, nI_l, lN_i, lN_add, lN_mul, lN_sub, pk_lLT, pk_lLE, pk_lEQ, lg_lt, lg_ge, lg_eq0, lg_le, lg_gt, lg_ltn, lg_gen, lg_eq0n, lg_len, lg_gtn, Nat.zero_le, Nat.not_lt_zero, not_false_eq_true, not_true_eq_false, true_and, and_true]; done) | (simp (maxSteps := 4000000) (disch := omega) only [n_0, n_1, n_2, n_3, n_4, n_5, n_6, n_7, n_8, n_9, n_10, n_11, n_12, n_13, n_14, n_15, n_16, n_18, n_20, n_24, n_31, n_32, n_34, n_40, n_41, n_44, n_45, n_47, n_48, n_57, n_58, n_59, n_61, n_63, n_64, n_65, n_68, n_90, n_91, n_93, n_95, n_97, n_100, n_122, n_123, n_125, n_128, n_144, n_200, n_255, n_256, n_300, n_400, n_600, n_1536, n_3980, n_4000, n_4001, n_4300, n_65536, l_0, l_1, l_2, l_3, l_4, l_10, l_48, l_63, l_255, l_300, nI_ltI, nI_leI, nI_eq, nI_clamp, nI_add, pk_sub, pk_mul, nI_ne1, ne1_nI, nI_pge, nI_nlt0, nI_l, lN_i, lN_add, lN_mul, lN_sub, pk_lLT, pk_lLE, pk_lEQ, lg_lt, lg_ge, lg_eq0, lg_le, lg_gt, lg_ltn, lg_gen, lg_eq0n, lg_len, lg_gtn, Nat.zero_le, Nat.not_lt_zero, not_false_eq_true, not_true_eq_false, true_and, and_true]; omega) | omega)) (o_bind q1 q6)))
  rcases newField2 (R := 1293) (b := 8 * nu) ST0 BM D (by omega) (by omega) e3 hf (fun j hj' => (BU j hj').1) r93 (by rw [Lh.n1293]; omega) (by rw [Lh.n1293]; decide) with ⟨u1, w1, w2, w3, w4, w5, w6, w7, w8, w9, w10, w11⟩ | ⟨u, p, w1, w2, w3, w4, w5⟩
  · refine Or.inl ?_
    obtain ⟨n1, n2, n3, n4, n5, n6, n7, n8', n9, n10⟩ := N
    have ak : dU S nu + 2 + f < hz g ∧ hk g (dU S nu + 2 + f) = 3 := ⟨by have := D.1; omega, (D.2.2.2.2.2.2.2.2.1 f w3).2⟩
    obtain ⟨v1, ev1⟩ : ∃ v1, v1 = hsi u1 (dU S nu + 2 + f) 3 3 := ⟨_, rfl⟩
    have Fv : FRX (xP S t) (xJ S t) (wW S t) u1 v1 := by rw [ev1]; exact FRX.refl.si (Or.inr (Or.inr (by omega)))
    have STv : ST T n c v1 (hsi h 1262 13 (nI (k + 1))) t S (k + 1) := w5.con Fv FRX.refl
    have akv : dU S nu + 2 + f < hz v1 ∧ hk v1 (dU S nu + 2 + f) = 3 := by rw [Fv.1.1, Fv.1.2.2.1, w6.1.1, w6.1.2.2.1]; exact ak
    have ev3 : hi v1 t 3 = nI na := by rw [ev1, hi_hsi_ne (by omega), w6.at (by unfold nfP; omega)]; exact n9
    have aw := e_p_await (x := nI k) STv.1 akv ev3 (by omega) (by omega)
    obtain ⟨u2, eu2⟩ : ∃ u2, u2 = hsi (hsr (hsi v1 (dU S nu + 2 + f) 2 (nI k)) (t + 1) na (some (dU S nu + 2 + f))) t 3 (nI (na + 1)) := ⟨_, rfl⟩
    rw [← eu2] at aw
    have Fx : FRX (xP S t) (xJ S t) (wW S t) v1 u2 := by
      rw [eu2]
      exact ((FRX.refl.si (Or.inr (Or.inr (by omega)))).sr (Or.inr rfl)).si (Or.inl ⟨rfl, rfl⟩)
    have F2 : FRX (bUP S t nu f) (bUJ S nu f) (bUW t na) g u2 := by
      rw [eu2, ev1]
      refine (FRX.si (FRX.sr (FRX.si (FRX.si (w6.mono (fun a k z => ?_) (fun a k z => Or.inr z) (fun _ _ z => z.elim)) ?_) ?_) ?_) ?_)
      · unfold nfP at z; unfold bUP; omega
      · exact Or.inr (Or.inl ⟨rfl, by decide⟩)
      · exact Or.inr (Or.inl ⟨rfl, by decide⟩)
      · exact ⟨rfl, Nat.le_refl _⟩
      · exact Or.inl ⟨rfl, Or.inl rfl⟩
    obtain ⟨p2, ep2⟩ : ∃ p2, p2 = hsi (hsi (hsi (hsi (hsi (hsi (hsi h 1293 (8 * nu + f) (nI k)) 1295 na (nI k)) 1296 na 2) 1297 na (nI (8 * nu + f))) 1262 46 (nI (na + 1))) 1292 nu (nI (f + 1))) 1262 13 (nI (k + 1)) := ⟨_, rfl⟩
    have G2 : FRX (bUM nu f na) sJ nW h p2 := by
      rw [ep2]
      exact ((((((FRX.refl.si (by simp [bUM])).si (by simp [bUM])).si (by simp [bUM])).si (by simp [bUM])).si (by simp [bUM])).si (by simp [bUM])).si (by simp [bUM])
    have Gx : FRX xM nJ nW (hsi h 1262 13 (nI (k + 1))) p2 := by
      refine ⟨G2.1, fun a k z => G2.2.1 a k id, fun a' k z => G2.2.2.1 a' k (fun w => z (Or.inl w)), fun a' k' z => ?_⟩
      rw [ep2]
      by_cases e : a' = 1262 ∧ k' = 13
      · rw [e.1, e.2, hi_at, hi_at]
      · rw [hi_hsi, if_neg e, hi_hsi, hi_hsi, hi_hsi, hi_hsi, hi_hsi, hi_hsi, hi_hsi, if_neg e]
        unfold xM at z
        rw [if_neg (by omega), if_neg (by omega), if_neg (by omega), if_neg (by omega), if_neg (by omega), if_neg (by omega)]
    have ST2 : ST T n c u2 p2 t S (k + 1) := STv.con Fx Gx
    have B2 : BG T n c S t nd ns 0 nt 0 nu f na es et eu 0 u2 p2 := B.fr P.1 t17 (F2.mono (fun a k z => bUP_y n8 w3 z) (fun a k z => bUJ_y n8 w3 z) (fun _ _ z => Or.inr z)) (G2.mono (fun a k z => bUM_z z) (fun a k z => sJ_z z) (fun _ _ z => z))
    have u2a : ∀ k, k ≠ 2 → k ≠ 3 → hi u2 (dU S nu + 2 + f) k = hi u1 (dU S nu + 2 + f) k := fun k k2 k3 => by
      rw [eu2, hi_hsi_ne (by omega), hi_hsr, hi_nk k2, ev1, hi_nk k3]
    have u2j : ∀ k, hj u2 (dU S nu + 2 + f) k = hj u1 (dU S nu + 2 + f) k := fun k => by
      rw [eu2, hj_hsi, hj_hsr, hj_hsi, ev1, hj_hsi]
    have g8 : hi u2 8 k = hi g 8 k := F2.at (by unfold bUP; omega)
    have B3 := B2.askU (k := k) w3 heu kc' (by rw [g8]; exact w4) (by rw [eu2, hr_hsi, hr_hsr_eq]) (by rw [eu2, hi_hsi_ne (by omega), hi_hsr, hi_at]) (by rw [eu2, hi_hsi_ne (by omega), hi_hsr, hi_nk (by decide), ev1, hi_at]) (by rw [ep2, hi_hsi_ne (by decide), hi_hsi_ne (by decide), hi_hsi_ne (by decide), hi_hsi_ne (by decide), hi_hsi_ne (by decide), hi_at]) (by rw [ep2, hi_hsi_ne (by decide), hi_hsi_ne (by decide), hi_hsi_ne (by decide), hi_hsi_ne (by decide), hi_at]) (by rw [ep2, hi_hsi_ne (by decide), hi_hsi_ne (by decide), hi_hsi_ne (by decide), hi_at]) (by
      refine ⟨k, kc', ?_, by rw [g8]; exact w4, ?_, ?_⟩
      · rw [ep2, hi_hsi_ne (by decide), hi_hsi_ne (by decide), hi_hsi_ne (by decide), hi_hsi_ne (by decide), hi_hsi_ne (by decide), hi_hsi_ne (by decide), hi_at]
      · rw [u2j, w9]; exact (F2.lg (by unfold bUJ; omega)).symm
      · rw [u2j, w10]; exact (F2.lg (by unfold bUJ; omega)).symm)
    have gS : ∀ b k, (b = S ∨ b = S + 1 ∨ b = S + 195 ∨ b = S + 517) → hi u2 b k = hi g b k := fun b k hb => F2.at (by unfold bUP; omega)
    have pm : ∀ k, k ≠ 13 → k ≠ 46 → hi p2 1262 k = hi h 1262 k := fun k k1 k2 => by
      rw [ep2, hi_nk k1, hi_hsi_ne (by decide), hi_nk k2, hi_hsi_ne (by decide), hi_hsi_ne (by decide), hi_hsi_ne (by decide), hi_hsi_ne (by decide)]
    have FC2 : FC S t g u2 := F2.mono (fun a k z => yP_c (bUP_y (ns := ns) (nt := nt) n8 w3 z)) (fun a k z => yJ_c (bUJ_y (t := t) (ns := ns) (nt := nt) (es := es) (et := et) (eu := eu) n8 w3 z)) (fun _ _ z => Or.inr (by rw [z.1]; omega))
    have FM2 : FMx h p2 := G2.mono (fun a k z => zP_m (bUM_z (nd := nd) (ns := ns) (nt := nt) z)) (fun a k z => Or.inl z) (fun _ _ z => z)
    refine ⟨u2, p2, ?_, fun K => ?_, ⟨ST2, B3, ⟨?_, ?_, ?_, ?_, ?_, ?_, ?_, ?_, ?_, ?_⟩, FM2.ly Lh, ?_, ?_, heu⟩, w3, FC2, FM2⟩
    · unfold f_p_readMember
      refine o_pos P.tk (o_bind w1 (o_elim (o_pos (by rw [w6.1.1, w6.1.2.2.1]; exact ak) (o_pos w5.1.tk (o_bind (v := ((), u2)) ?_ rfl)))))
      rw [a5, ← ev1]
      exact aw
    · have m14'' : hi (hsi h 1293 (8 * nu + f) (nI k)) 1262 14 = 0 := by rw [hi_hsi_ne (by decide)]; exact m14'
      have m46'' : hi (hsi h 1293 (8 * nu + f) (nI k)) 1262 46 = nI na := by rw [hi_hsi_ne (by decide)]; exact n10
      refine sm w2 (o_neg (not_not_intro m14') (o_pos (by (first | (simp (maxSteps := 4000000) (disch := omega) only [n_0, n_1, n_2, n_3, n_4, n_5, n_6, n_7, n_8, n_9, n_10, n_11, n_12, n_13, n_14, n_15, n_16, n_18, n_20, n_24, n_31, n_32, n_34, n_40, n_41, n_44, n_45, n_47, n_48, n_57, n_58, n_59, n_61, n_63, n_64, n_65, n_68, n_90, n_91, n_93, n_95, n_97, n_100, n_122, n_123, n_125, n_128, n_144, n_200, n_255, n_256, n_300, n_400, n_600, n_1536, n_3980, n_4000, n_4001, n_4300, n_65536, l_0, l_1, l_2, l_3, l_4, l_10, l_48, l_63, l_255, l_300, nI_ltI, nI_leI, nI_eq, nI_clamp, nI_add, pk_sub, pk_mul, nI_ne1, ne1_nI, nI_pge, nI_nlt0, nI_l, lN_i, lN_add, lN_mul, lN_sub, pk_lLT, pk_lLE, pk_lEQ, lg_lt, lg_ge, lg_eq0, lg_le, lg_gt, lg_ltn, lg_gen, lg_eq0n, lg_len, lg_gtn, Nat.zero_le, Nat.not_lt_zero, not_false_eq_true, not_true_eq_false, true_and, and_true]; done) | (simp (maxSteps := 4000000) (disch := omega) only [n_0, n_1, n_2, n_3, n_4, n_5, n_6, n_7, n_8, n_9, n_10, n_11, n_12, n_13, n_14, n_15, n_16, n_18, n_20, n_24, n_31, n_32, n_34, n_40, n_41, n_44, n_45, n_47, n_48, n_57, n_58, n_59, n_61, n_63, n_64, n_65, n_68, n_90, n_91, n_93, n_95, n_97, n_100, n_122, n_123, n_125, n_128, n_144, n_200, n_255, n_256, n_300, n_400, n_600, n_1536, n_3980, n_4000, n_4001, n_4300, n_65536, l_0, l_1, l_2, l_3, l_4, l_10, l_48, l_63, l_255, l_300, nI_ltI, nI_leI, nI_eq, nI_clamp, nI_add, pk_sub, pk_mul, nI_ne1, ne1_nI, nI_pge, nI_nlt0, nI_l, lN_i, lN_add, lN_mul, lN_sub, pk_lLT, pk_lLE, pk_lEQ, lg_lt, lg_ge, lg_eq0, lg_le, lg_gt, lg_ltn, lg_gen, lg_eq0n, lg_len, lg_gtn, Nat.zero_le, Nat.not_lt_zero, not_false_eq_true, not_true_eq_false, true_and, and_true]; omega) | omega)) ?_))
      rw [m13']
      refine o_bind (e_m_ask m14'' m46'' (by omega)) (o_pos (by (first | (simp (maxSteps := 4000000) (disch := omega) only [n_0, n_1, n_2, n_3, n_4, n_5, n_6, n_7, n_8, n_9, n_10, n_11, n_12, n_13, n_14, n_15, n_16, n_18, n_20, n_24, n_31, n_32, n_34, n_40, n_41, n_44, n_45, n_47, n_48, n_57, n_58, n_59, n_61, n_63, n_64, n_65, n_68, n_90, n_91, n_93, n_95, n_97, n_100, n_122, n_123, n_125, n_128, n_144, n_200, n_255, n_256, n_300, n_400, n_600, n_1536, n_3980, n_4000, n_4001, n_4300, n_65536, l_0, l_1, l_2, l_3, l_4, l_10, l_48, l_63, l_255, l_300, nI_ltI, nI_leI, nI_eq, nI_clamp, nI_add, pk_sub, pk_mul, nI_ne1, ne1_nI, nI_pge, nI_nlt0, nI_l, lN_i, lN_add, lN_mul, lN_sub, pk_lLT, pk_lLE, pk_lEQ, lg_lt, lg_ge, lg_eq0, lg_le, lg_gt, lg_ltn, lg_gen, lg_eq0n, lg_len, lg_gtn, Nat.zero_le, Nat.not_lt_zero, not_false_eq_true, not_true_eq_false, true_and, and_true]; done) | (simp (maxSteps := 4000000) (disch := omega) only [n_0, n_1, n_2, n_3, n_4, n_5, n_6, n_7, n_8, n_9, n_10, n_11, n_12, n_13, n_14, n_15, n_16, n_18, n_20, n_24, n_31, n_32, n_34, n_40, n_41, n_44, n_45, n_47, n_48, n_57, n_58, n_59, n_61, n_63, n_64, n_65, n_68, n_90, n_91, n_93, n_95, n_97, n_100, n_122, n_123, n_125, n_128, n_144, n_200, n_255, n_256, n_300, n_400, n_600, n_1536, n_3980, n_4000, n_4001, n_4300, n_65536, l_0, l_1, l_2, l_3, l_4, l_10, l_48, l_63, l_255, l_300, nI_ltI, nI_leI, nI_eq, nI_clamp, nI_add, pk_sub, pk_mul, nI_ne1, ne1_nI, nI_pge, nI_nlt0, nI_l, lN_i, lN_add, lN_mul, lN_sub, pk_lLT, pk_lLE, pk_lEQ, lg_lt, lg_ge, lg_eq0, lg_le, lg_gt, lg_ltn, lg_gen, lg_eq0n, lg_len, lg_gtn, Nat.zero_le, Nat.not_lt_zero, not_false_eq_true, not_true_eq_false, true_and, and_true]; omega) | omega)) ?_)
      obtain ⟨q, eq⟩ : ∃ q, q = hsi (hsi (hsi (hsi (hsi (hsi h 1293 (8 * nu + f) (nI k)) 1295 na (nI k)) 1296 na 2) 1297 na (nI (8 * nu + f))) 1262 46 (nI (na + 1))) 1292 nu (nI (f + 1)) := ⟨_, rfl⟩
      have q92 : hi (hsi (hsi (hsi (hsi (hsi h 1293 (8 * nu + f) (nI k)) 1295 na (nI k)) 1296 na 2) 1297 na (nI (8 * nu + f))) 1262 46 (nI (na + 1))) 1292 nu + 1 = nI (f + 1) := by
        rw [hi_hsi_ne (by decide), hi_hsi_ne (by decide), hi_hsi_ne (by decide), hi_hsi_ne (by decide), hi_hsi_ne (by decide), e92, n_1, nI_add]
      show b_m_unionBody_94 K (nI nu) (hsi (hsi (hsi (hsi (hsi (hsi h 1293 (8 * nu + f) (nI k)) 1295 na (nI k)) 1296 na 2) 1297 na (nI (8 * nu + f))) 1262 46 (nI (na + 1))) 1292 nu (hi (hsi (hsi (hsi (hsi (hsi h 1293 (8 * nu + f) (nI k)) 1295 na (nI k)) 1296 na 2) 1297 na (nI (8 * nu + f))) 1262 46 (nI (na + 1))) 1292 nu + 1)) = _
      rw [q92, ← eq]
      unfold b_m_unionBody_94 b_m_unionBody_113 RU
      have q14 : hi q 1262 14 = 0 := by
        rw [eq, hi_hsi_ne (by decide), hi_nk (by decide), hi_hsi_ne (by decide), hi_hsi_ne (by decide), hi_hsi_ne (by decide), hi_hsi_ne (by decide)]; exact m14'
      have q13 : hi q 1262 13 = nI k := by
        rw [eq, hi_hsi_ne (by decide), hi_nk (by decide), hi_hsi_ne (by decide), hi_hsi_ne (by decide), hi_hsi_ne (by decide), hi_hsi_ne (by decide)]; exact m13'
      refine o_bind (e_m_take q14 q13) ?_
      rw [ep2, ← eq]
    · rw [gS _ _ (by simp)]; exact n1
    · rw [pm 16 (by decide) (by decide)]; exact n2
    · rw [gS _ _ (by simp)]; exact n3
    · rw [gS _ _ (by simp)]; exact n4
    · rw [gS _ _ (by simp)]; exact n5
    · rw [pm 20 (by decide) (by decide)]; exact n6
    · rw [pm 31 (by decide) (by decide)]; exact n7
    · rw [pm 41 (by decide) (by decide)]; exact n8'
    · rw [eu2, hi_at]
    · rw [ep2, hi_nk (by decide), hi_hsi_ne (by decide), hi_at]
    · rw [eu2, hi_hsi_ne (by omega), hi_hsr, hi_hsi_ne (by omega), ev1, hi_hsi_ne (by omega)]; exact w7
    · rw [ep2, hi_hsi_ne (by decide), hi_at]
  · have f3 := w3.2.2
    refine Or.inr ⟨u, p, ?_, fun K => sm w2 (o_pos f3 ?_), w3, FC.tFq w4, FMx.q14 w5⟩
    · unfold f_p_readMember
      exact o_pos P.tk (o_bind w1 (o_elimn rfl))
    · unfold b_m_unionBody_94 b_m_unionBody_113 RU
      exact o_bind (e_m_takeF f3) rfl
theorem nf_ub14 {F : Nat} {x1 x2 : Int32} (m : ¬ hi p 1262 14 = 0) : b_m_unionBody_14 (F + 1) x1 x2 p = some ((), hsi p 1262 41 (hi p 1262 41 + 1)) := by
  have e : b_m_unionBody_116 p = some ((), hsi p 1262 41 (hi p 1262 41 + 1)) := by
    unfold b_m_unionBody_116
    exact o_bind (nf_sign m) rfl
  show s_m_unionBody_14 (b_m_unionBody_14 F) _ _ _ = _
  unfold s_m_unionBody_14
  by_cases q : x2 = 0
  · exact o_pos q e
  · exact o_neg q (o_pos m e)
theorem nf_ru {F : Nat} {x1 : Int32} (m : ¬ hi p 1262 14 = 0) : RU (b_m_unionBody_14 (F + 1)) x1 p = some ((), hsi p 1262 41 (hi p 1262 41 + 1)) := by
  unfold RU
  exact o_bind (nf_isSign m) (o_pos rfl (nf_ub14 m))
end Ub
